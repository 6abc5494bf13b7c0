theorem dX8_startRun_7 : decode cX8_startRun 7 = .ok (.putfield 190, 3) := by decide +kernel
theorem dX8_startRun_10 : decode cX8_startRun 10 = .ok (.aload_n 0, 1) := by decide +kernel
theorem dX8_startRun_11 : decode cX8_startRun 11 = .ok (.lconst 0, 1) := by decide +kernel
theorem dX8_startRun_12 : decode cX8_startRun 12 = .ok (.putfield 193, 3) := by decide +kernel
theorem dX8_startRun_15 : decode cX8_startRun 15 = .ok (.aload_n 0, 1) := by decide +kernel
theorem dX8_startRun_16 : decode cX8_startRun 16 = .ok (.lconst 0, 1) := by decide +kernel
theorem dX8_startRun_17 : decode cX8_startRun 17 = .ok (.putfield 215, 3) := by decide +kernel
theorem dX8_startRun_20 : decode cX8_startRun 20 = .ok (.aload_n 0, 1) := by decide +kernel
theorem dX8_startRun_21 : decode cX8_startRun 21 = .ok (.lconst 0, 1) := by decide +kernel
theorem dX8_startRun_22 : decode cX8_startRun 22 = .ok (.putfield 218, 3) := by decide +kernel
theorem dX8_startRun_25 : decode cX8_startRun 25 = .ok (.aload_n 0, 1) := by decide +kernel
theorem dX8_startRun_26 : decode cX8_startRun 26 = .ok (.iconst 0, 1) := by decide +kernel
theorem dX8_startRun_27 : decode cX8_startRun 27 = .ok (.putfield 221, 3) := by decide +kernel
theorem dX8_startRun_30 : decode cX8_startRun 30 = .ok (.return_, 1) := by decide +kernel
theorem dX8_goOn_0 : decode cX8_goOn 0 = .ok (.iconst 1, 1) := by decide +kernel
theorem dX8_goOn_1 : decode cX8_goOn 1 = .ok (.istore_n 2, 1) := by decide +kernel
theorem dX8_goOn_2 : decode cX8_goOn 2 = .ok (.iload_n 2, 1) := by decide +kernel
theorem dX8_goOn_3 : decode cX8_goOn 3 = .ok (.iload_n 1, 1) := by decide +kernel
theorem dX8_goOn_4 : decode cX8_goOn 4 = .ok (.if_icmp .gt 94, 3) := by decide +kernel
theorem dX8_goOn_7 : decode cX8_goOn 7 = .ok (.aload_n 0, 1) := by decide +kernel
theorem dX8_goOn_8 : decode cX8_goOn 8 = .ok (.invokevirtual 204, 3) := by decide +kernel
theorem dX8_goOn_11 : decode cX8_goOn 11 = .ok (.aload_n 0, 1) := by decide +kernel
theorem dX8_goOn_12 : decode cX8_goOn 12 = .ok (.aload_n 0, 1) := by decide +kernel
theorem dX8_goOn_13 : decode cX8_goOn 13 = .ok (.getfield 7, 3) := by decide +kernel
theorem dX8_goOn_16 : decode cX8_goOn 16 = .ok (.iconst 0, 1) := by decide +kernel
theorem dX8_goOn_17 : decode cX8_goOn 17 = .ok (.laload, 1) := by decide +kernel
theorem dX8_goOn_18 : decode cX8_goOn 18 = .ok (.invokestatic 151, 3) := by decide +kernel
theorem dX8_goOn_21 : decode cX8_goOn 21 = .ok (.aload_n 0, 1) := by decide +kernel
theorem dX8_goOn_22 : decode cX8_goOn 22 = .ok (.getfield 215, 3) := by decide +kernel
theorem dX8_goOn_25 : decode cX8_goOn 25 = .ok (.lcmp, 1) := by decide +kernel
theorem dX8_goOn_26 : decode cX8_goOn 26 = .ok (.ifCond .le 15, 3) := by decide +kernel
theorem dX8_goOn_29 : decode cX8_goOn 29 = .ok (.aload_n 0, 1) := by decide +kernel
theorem dX8_goOn_30 : decode cX8_goOn 30 = .ok (.getfield 7, 3) := by decide +kernel
theorem dX8_goOn_33 : decode cX8_goOn 33 = .ok (.iconst 0, 1) := by decide +kernel
theorem dX8_goOn_34 : decode cX8_goOn 34 = .ok (.laload, 1) := by decide +kernel
theorem dX8_goOn_35 : decode cX8_goOn 35 = .ok (.invokestatic 151, 3) := by decide +kernel
theorem dX8_goOn_38 : decode cX8_goOn 38 = .ok (.goto 7, 3) := by decide +kernel
theorem dX8_goOn_41 : decode cX8_goOn 41 = .ok (.aload_n 0, 1) := by decide +kernel
theorem dX8_goOn_42 : decode cX8_goOn 42 = .ok (.getfield 215, 3) := by decide +kernel
theorem dX8_goOn_45 : decode cX8_goOn 45 = .ok (.putfield 215, 3) := by decide +kernel
theorem dX8_goOn_48 : decode cX8_goOn 48 = .ok (.aload_n 0, 1) := by decide +kernel
theorem dX8_goOn_49 : decode cX8_goOn 49 = .ok (.getfield 221, 3) := by decide +kernel
theorem dX8_goOn_52 : decode cX8_goOn 52 = .ok (.ifCond .eq 21, 3) := by decide +kernel
theorem dX8_goOn_55 : decode cX8_goOn 55 = .ok (.aload_n 0, 1) := by decide +kernel
theorem dX8_goOn_56 : decode cX8_goOn 56 = .ok (.getfield 7, 3) := by decide +kernel
theorem dX8_goOn_59 : decode cX8_goOn 59 = .ok (.bipush 10, 2) := by decide +kernel
theorem dX8_goOn_61 : decode cX8_goOn 61 = .ok (.laload, 1) := by decide +kernel
theorem dX8_goOn_62 : decode cX8_goOn 62 = .ok (.invokestatic 151, 3) := by decide +kernel
theorem dX8_goOn_65 : decode cX8_goOn 65 = .ok (.aload_n 0, 1) := by decide +kernel
theorem dX8_goOn_66 : decode cX8_goOn 66 = .ok (.getfield 218, 3) := by decide +kernel
theorem dX8_goOn_69 : decode cX8_goOn 69 = .ok (.lcmp, 1) := by decide +kernel
theorem dX8_goOn_70 : decode cX8_goOn 70 = .ok (.ifCond .le 22, 3) := by decide +kernel
theorem dX8_goOn_73 : decode cX8_goOn 73 = .ok (.aload_n 0, 1) := by decide +kernel
theorem dX8_goOn_74 : decode cX8_goOn 74 = .ok (.aload_n 0, 1) := by decide +kernel
theorem dX8_goOn_75 : decode cX8_goOn 75 = .ok (.getfield 7, 3) := by decide +kernel
theorem dX8_goOn_78 : decode cX8_goOn 78 = .ok (.bipush 10, 2) := by decide +kernel
theorem dX8_goOn_80 : decode cX8_goOn 80 = .ok (.laload, 1) := by decide +kernel
theorem dX8_goOn_81 : decode cX8_goOn 81 = .ok (.invokestatic 151, 3) := by decide +kernel
theorem dX8_goOn_84 : decode cX8_goOn 84 = .ok (.putfield 218, 3) := by decide +kernel
theorem dX8_goOn_87 : decode cX8_goOn 87 = .ok (.aload_n 0, 1) := by decide +kernel
theorem dX8_goOn_88 : decode cX8_goOn 88 = .ok (.iload_n 2, 1) := by decide +kernel
theorem dX8_goOn_89 : decode cX8_goOn 89 = .ok (.putfield 221, 3) := by decide +kernel
theorem dX8_goOn_92 : decode cX8_goOn 92 = .ok (.iinc 2 1, 3) := by decide +kernel
theorem dX8_goOn_95 : decode cX8_goOn 95 = .ok (.goto (-93), 3) := by decide +kernel
theorem dX8_goOn_98 : decode cX8_goOn 98 = .ok (.return_, 1) := by decide +kernel
theorem dX8_run_0 : decode cX8_run 0 = .ok (.aload_n 0, 1) := by decide +kernel
theorem dX8_run_1 : decode cX8_run 1 = .ok (.invokevirtual 224, 3) := by decide +kernel
theorem dX8_run_4 : decode cX8_run 4 = .ok (.aload_n 0, 1) := by decide +kernel
theorem dX8_run_5 : decode cX8_run 5 = .ok (.invokevirtual 227, 3) := by decide +kernel
theorem dX8_run_8 : decode cX8_run 8 = .ok (.aload_n 0, 1) := by decide +kernel
theorem dX8_run_9 : decode cX8_run 9 = .ok (.iload_n 1, 1) := by decide +kernel
theorem dX8_run_10 : decode cX8_run 10 = .ok (.invokevirtual 230, 3) := by decide +kernel
theorem dX8_run_13 : decode cX8_run 13 = .ok (.aload_n 0, 1) := by decide +kernel
theorem dX8_run_14 : decode cX8_run 14 = .ok (.invokevirtual 233, 3) := by decide +kernel
theorem dX8_run_17 : decode cX8_run 17 = .ok (.return_, 1) := by decide +kernel
theorem dX8_peak_0 : decode cX8_peak 0 = .ok (.iload_n 1, 1) := by decide +kernel
theorem dX8_peak_1 : decode cX8_peak 1 = .ok (.invokestatic 201, 3) := by decide +kernel
theorem dX8_peak_4 : decode cX8_peak 4 = .ok (.ifCond .ne 10, 3) := by decide +kernel
theorem dX8_peak_7 : decode cX8_peak 7 = .ok (.aload_n 0, 1) := by decide +kernel
theorem dX8_peak_8 : decode cX8_peak 8 = .ok (.bipush (-2), 2) := by decide +kernel
theorem dX8_peak_10 : decode cX8_peak 10 = .ok (.invokevirtual 65, 3) := by decide +kernel
theorem dX8_peak_13 : decode cX8_peak 13 = .ok (.ireturn, 1) := by decide +kernel
theorem dX8_peak_14 : decode cX8_peak 14 = .ok (.aload_n 0, 1) := by decide +kernel
theorem dX8_peak_15 : decode cX8_peak 15 = .ok (.iload_n 1, 1) := by decide +kernel
theorem dX8_peak_16 : decode cX8_peak 16 = .ok (.invokevirtual 236, 3) := by decide +kernel
theorem dX8_peak_19 : decode cX8_peak 19 = .ok (.aload_n 0, 1) := by decide +kernel
theorem dX8_peak_20 : decode cX8_peak 20 = .ok (.getfield 215, 3) := by decide +kernel
theorem dX8_peak_23 : decode cX8_peak 23 = .ok (.l2i, 1) := by decide +kernel
theorem dX8_peak_24 : decode cX8_peak 24 = .ok (.ireturn, 1) := by decide +kernel
theorem dX8_gain_0 : decode cX8_gain 0 = .ok (.iload_n 1, 1) := by decide +kernel
theorem dX8_gain_1 : decode cX8_gain 1 = .ok (.invokestatic 201, 3) := by decide +kernel
theorem dX8_gain_4 : decode cX8_gain 4 = .ok (.ifCond .ne 10, 3) := by decide +kernel
theorem dX8_gain_7 : decode cX8_gain 7 = .ok (.aload_n 0, 1) := by decide +kernel
theorem dX8_gain_8 : decode cX8_gain 8 = .ok (.ldc 209, 2) := by decide +kernel
theorem dX8_gain_10 : decode cX8_gain 10 = .ok (.invokevirtual 65, 3) := by decide +kernel
theorem dX8_gain_13 : decode cX8_gain 13 = .ok (.ireturn, 1) := by decide +kernel
theorem dX8_gain_14 : decode cX8_gain 14 = .ok (.aload_n 0, 1) := by decide +kernel
theorem dX8_gain_15 : decode cX8_gain 15 = .ok (.iload_n 1, 1) := by decide +kernel
theorem dX8_gain_16 : decode cX8_gain 16 = .ok (.invokevirtual 236, 3) := by decide +kernel
theorem dX8_gain_19 : decode cX8_gain 19 = .ok (.aload_n 0, 1) := by decide +kernel
theorem dX8_gain_20 : decode cX8_gain 20 = .ok (.getfield 187, 3) := by decide +kernel
theorem dX8_gain_23 : decode cX8_gain 23 = .ok (.iconst 2, 1) := by decide +kernel
theorem dX8_gain_24 : decode cX8_gain 24 = .ok (.if_icmp .ge 7, 3) := by decide +kernel
theorem dX8_gain_27 : decode cX8_gain 27 = .ok (.iconst 0, 1) := by decide +kernel
theorem dX8_gain_28 : decode cX8_gain 28 = .ok (.goto 13, 3) := by decide +kernel
theorem dX8_gain_31 : decode cX8_gain 31 = .ok (.aload_n 0, 1) := by decide +kernel
theorem dX8_gain_32 : decode cX8_gain 32 = .ok (.getfield 193, 3) := by decide +kernel
theorem dX8_gain_35 : decode cX8_gain 35 = .ok (.aload_n 0, 1) := by decide +kernel
theorem dX8_gain_36 : decode cX8_gain 36 = .ok (.getfield 190, 3) := by decide +kernel
theorem dX8_gain_39 : decode cX8_gain 39 = .ok (.lsub, 1) := by decide +kernel
theorem dX8_gain_40 : decode cX8_gain 40 = .ok (.l2i, 1) := by decide +kernel
theorem dX8_gain_41 : decode cX8_gain 41 = .ok (.ireturn, 1) := by decide +kernel
theorem dX8_worthOf_0 : decode cX8_worthOf 0 = .ok (.aload_n 0, 1) := by decide +kernel
theorem dX8_worthOf_1 : decode cX8_worthOf 1 = .ok (.iload_n 3, 1) := by decide +kernel
theorem dX8_worthOf_2 : decode cX8_worthOf 2 = .ok (.invokevirtual 236, 3) := by decide +kernel
theorem dX8_worthOf_5 : decode cX8_worthOf 5 = .ok (.aload_n 0, 1) := by decide +kernel
theorem dX8_worthOf_6 : decode cX8_worthOf 6 = .ok (.getfield 215, 3) := by decide +kernel
theorem dX8_worthOf_9 : decode cX8_worthOf 9 = .ok (.lstore 4, 2) := by decide +kernel
theorem dX8_worthOf_11 : decode cX8_worthOf 11 = .ok (.aload_n 0, 1) := by decide +kernel
theorem dX8_worthOf_12 : decode cX8_worthOf 12 = .ok (.aload_n 0, 1) := by decide +kernel
theorem dX8_worthOf_13 : decode cX8_worthOf 13 = .ok (.getfield 7, 3) := by decide +kernel
theorem dX8_worthOf_16 : decode cX8_worthOf 16 = .ok (.iconst 5, 1) := by decide +kernel
theorem dX8_worthOf_17 : decode cX8_worthOf 17 = .ok (.laload, 1) := by decide +kernel
theorem dX8_worthOf_18 : decode cX8_worthOf 18 = .ok (.iload_n 1, 1) := by decide +kernel
theorem dX8_worthOf_19 : decode cX8_worthOf 19 = .ok (.i2l, 1) := by decide +kernel
theorem dX8_worthOf_20 : decode cX8_worthOf 20 = .ok (.ladd, 1) := by decide +kernel
theorem dX8_worthOf_21 : decode cX8_worthOf 21 = .ok (.putfield 32, 3) := by decide +kernel
theorem dX8_worthOf_24 : decode cX8_worthOf 24 = .ok (.aload_n 0, 1) := by decide +kernel
theorem dX8_worthOf_25 : decode cX8_worthOf 25 = .ok (.iload_n 2, 1) := by decide +kernel
theorem dX8_worthOf_26 : decode cX8_worthOf 26 = .ok (.i2l, 1) := by decide +kernel
theorem dX8_worthOf_27 : decode cX8_worthOf 27 = .ok (.putfield 169, 3) := by decide +kernel
theorem dX8_worthOf_30 : decode cX8_worthOf 30 = .ok (.aload_n 0, 1) := by decide +kernel
theorem dX8_worthOf_31 : decode cX8_worthOf 31 = .ok (.iload_n 3, 1) := by decide +kernel
theorem dX8_worthOf_32 : decode cX8_worthOf 32 = .ok (.invokevirtual 236, 3) := by decide +kernel
theorem dX8_worthOf_35 : decode cX8_worthOf 35 = .ok (.aload_n 0, 1) := by decide +kernel
theorem dX8_worthOf_36 : decode cX8_worthOf 36 = .ok (.ldc2_w 30, 3) := by decide +kernel
theorem dX8_worthOf_39 : decode cX8_worthOf 39 = .ok (.putfield 32, 3) := by decide +kernel
theorem dX8_worthOf_42 : decode cX8_worthOf 42 = .ok (.aload_n 0, 1) := by decide +kernel
theorem dX8_worthOf_43 : decode cX8_worthOf 43 = .ok (.getfield 215, 3) := by decide +kernel
theorem dX8_worthOf_46 : decode cX8_worthOf 46 = .ok (.lload 4, 2) := by decide +kernel
theorem dX8_worthOf_48 : decode cX8_worthOf 48 = .ok (.lsub, 1) := by decide +kernel
theorem dX8_worthOf_49 : decode cX8_worthOf 49 = .ok (.l2i, 1) := by decide +kernel
theorem dX8_worthOf_50 : decode cX8_worthOf 50 = .ok (.ireturn, 1) := by decide +kernel
theorem dX8_worth_0 : decode cX8_worth 0 = .ok (.iload_n 1, 1) := by decide +kernel
theorem dX8_worth_1 : decode cX8_worth 1 = .ok (.i2l, 1) := by decide +kernel
theorem dX8_worth_2 : decode cX8_worth 2 = .ok (.lconst 0, 1) := by decide +kernel
theorem dX8_worth_3 : decode cX8_worth 3 = .ok (.ldc2_w 239, 3) := by decide +kernel
theorem dX8_worth_6 : decode cX8_worth 6 = .ok (.invokestatic 49, 3) := by decide +kernel
theorem dX8_worth_9 : decode cX8_worth 9 = .ok (.ifCond .eq 27, 3) := by decide +kernel
theorem dX8_worth_12 : decode cX8_worth 12 = .ok (.iload_n 2, 1) := by decide +kernel
theorem dX8_worth_13 : decode cX8_worth 13 = .ok (.invokestatic 138, 3) := by decide +kernel
theorem dX8_worth_16 : decode cX8_worth 16 = .ok (.ifCond .eq 20, 3) := by decide +kernel
theorem dX8_worth_19 : decode cX8_worth 19 = .ok (.iload_n 3, 1) := by decide +kernel
theorem dX8_worth_20 : decode cX8_worth 20 = .ok (.invokestatic 201, 3) := by decide +kernel
theorem dX8_worth_23 : decode cX8_worth 23 = .ok (.ifCond .eq 13, 3) := by decide +kernel
theorem dX8_worth_26 : decode cX8_worth 26 = .ok (.aload_n 0, 1) := by decide +kernel
theorem dX8_worth_27 : decode cX8_worth 27 = .ok (.iload_n 1, 1) := by decide +kernel
theorem dX8_worth_28 : decode cX8_worth 28 = .ok (.iload_n 2, 1) := by decide +kernel
theorem dX8_worth_29 : decode cX8_worth 29 = .ok (.iload_n 3, 1) := by decide +kernel
theorem dX8_worth_30 : decode cX8_worth 30 = .ok (.invokevirtual 241, 3) := by decide +kernel
theorem dX8_worth_33 : decode cX8_worth 33 = .ok (.goto 9, 3) := by decide +kernel
theorem dX8_worth_36 : decode cX8_worth 36 = .ok (.aload_n 0, 1) := by decide +kernel
theorem dX8_worth_37 : decode cX8_worth 37 = .ok (.ldc 209, 2) := by decide +kernel
theorem dX8_worth_39 : decode cX8_worth 39 = .ok (.invokevirtual 65, 3) := by decide +kernel
theorem dX8_worth_42 : decode cX8_worth 42 = .ok (.ireturn, 1) := by decide +kernel
theorem dX8_restsAt_0 : decode cX8_restsAt 0 = .ok (.aload_n 0, 1) := by decide +kernel
theorem dX8_restsAt_1 : decode cX8_restsAt 1 = .ok (.getfield 7, 3) := by decide +kernel
theorem dX8_restsAt_4 : decode cX8_restsAt 4 = .ok (.iconst 5, 1) := by decide +kernel
theorem dX8_restsAt_5 : decode cX8_restsAt 5 = .ok (.laload, 1) := by decide +kernel
theorem dX8_restsAt_6 : decode cX8_restsAt 6 = .ok (.lstore_n 3, 1) := by decide +kernel
theorem dX8_restsAt_7 : decode cX8_restsAt 7 = .ok (.aload_n 0, 1) := by decide +kernel
theorem dX8_restsAt_8 : decode cX8_restsAt 8 = .ok (.lload_n 1, 1) := by decide +kernel
theorem dX8_restsAt_9 : decode cX8_restsAt 9 = .ok (.invokevirtual 196, 3) := by decide +kernel
theorem dX8_restsAt_12 : decode cX8_restsAt 12 = .ok (.aload_n 0, 1) := by decide +kernel
theorem dX8_restsAt_13 : decode cX8_restsAt 13 = .ok (.getfield 7, 3) := by decide +kernel
theorem dX8_restsAt_16 : decode cX8_restsAt 16 = .ok (.iconst 4, 1) := by decide +kernel
theorem dX8_restsAt_17 : decode cX8_restsAt 17 = .ok (.lconst 0, 1) := by decide +kernel
theorem dX8_restsAt_18 : decode cX8_restsAt 18 = .ok (.lastore, 1) := by decide +kernel
theorem dX8_restsAt_19 : decode cX8_restsAt 19 = .ok (.aload_n 0, 1) := by decide +kernel
theorem dX8_restsAt_20 : decode cX8_restsAt 20 = .ok (.getfield 7, 3) := by decide +kernel
theorem dX8_restsAt_23 : decode cX8_restsAt 23 = .ok (.iconst 5, 1) := by decide +kernel
theorem dX8_restsAt_24 : decode cX8_restsAt 24 = .ok (.lload_n 3, 1) := by decide +kernel
theorem dX8_restsAt_25 : decode cX8_restsAt 25 = .ok (.lastore, 1) := by decide +kernel
theorem dX8_restsAt_26 : decode cX8_restsAt 26 = .ok (.return_, 1) := by decide +kernel
theorem dX8_begins_0 : decode cX8_begins 0 = .ok (.aload_n 0, 1) := by decide +kernel
theorem dX8_begins_1 : decode cX8_begins 1 = .ok (.invokevirtual 224, 3) := by decide +kernel
theorem dX8_begins_4 : decode cX8_begins 4 = .ok (.aload_n 0, 1) := by decide +kernel
theorem dX8_begins_5 : decode cX8_begins 5 = .ok (.lconst 0, 1) := by decide +kernel
theorem dX8_begins_6 : decode cX8_begins 6 = .ok (.invokevirtual 245, 3) := by decide +kernel
theorem dX8_begins_9 : decode cX8_begins 9 = .ok (.iconst (-1), 1) := by decide +kernel
theorem dX8_begins_10 : decode cX8_begins 10 = .ok (.istore_n 1, 1) := by decide +kernel
theorem dX8_begins_11 : decode cX8_begins 11 = .ok (.iconst 1, 1) := by decide +kernel
theorem dX8_begins_12 : decode cX8_begins 12 = .ok (.istore_n 2, 1) := by decide +kernel
theorem dX8_begins_13 : decode cX8_begins 13 = .ok (.iload_n 2, 1) := by decide +kernel
theorem dX8_begins_14 : decode cX8_begins 14 = .ok (.sipush 500, 3) := by decide +kernel
theorem dX8_begins_17 : decode cX8_begins 17 = .ok (.if_icmp .gt 40, 3) := by decide +kernel
theorem dX8_begins_20 : decode cX8_begins 20 = .ok (.iload_n 1, 1) := by decide +kernel
theorem dX8_begins_21 : decode cX8_begins 21 = .ok (.iconst (-1), 1) := by decide +kernel
theorem dX8_begins_22 : decode cX8_begins 22 = .ok (.if_icmp .ne 35, 3) := by decide +kernel
theorem dX8_begins_25 : decode cX8_begins 25 = .ok (.aload_n 0, 1) := by decide +kernel
theorem dX8_begins_26 : decode cX8_begins 26 = .ok (.invokevirtual 204, 3) := by decide +kernel
theorem dX8_begins_29 : decode cX8_begins 29 = .ok (.aload_n 0, 1) := by decide +kernel
theorem dX8_begins_30 : decode cX8_begins 30 = .ok (.getfield 7, 3) := by decide +kernel
theorem dX8_begins_33 : decode cX8_begins 33 = .ok (.iconst 0, 1) := by decide +kernel
theorem dX8_begins_34 : decode cX8_begins 34 = .ok (.laload, 1) := by decide +kernel
theorem dX8_begins_35 : decode cX8_begins 35 = .ok (.invokestatic 151, 3) := by decide +kernel
theorem dX8_begins_38 : decode cX8_begins 38 = .ok (.ldc2_w 172, 3) := by decide +kernel
theorem dX8_begins_41 : decode cX8_begins 41 = .ok (.lcmp, 1) := by decide +kernel
theorem dX8_begins_42 : decode cX8_begins 42 = .ok (.ifCond .lt 7, 3) := by decide +kernel
theorem dX8_begins_45 : decode cX8_begins 45 = .ok (.iload_n 2, 1) := by decide +kernel
theorem dX8_begins_46 : decode cX8_begins 46 = .ok (.goto 4, 3) := by decide +kernel
theorem dX8_begins_49 : decode cX8_begins 49 = .ok (.iconst (-1), 1) := by decide +kernel
theorem dX8_begins_50 : decode cX8_begins 50 = .ok (.istore_n 1, 1) := by decide +kernel
theorem dX8_begins_51 : decode cX8_begins 51 = .ok (.iinc 2 1, 3) := by decide +kernel
theorem dX8_begins_54 : decode cX8_begins 54 = .ok (.goto (-41), 3) := by decide +kernel
theorem dX8_begins_57 : decode cX8_begins 57 = .ok (.aload_n 0, 1) := by decide +kernel
theorem dX8_begins_58 : decode cX8_begins 58 = .ok (.invokevirtual 233, 3) := by decide +kernel
theorem dX8_begins_61 : decode cX8_begins 61 = .ok (.iload_n 1, 1) := by decide +kernel
theorem dX8_begins_62 : decode cX8_begins 62 = .ok (.ireturn, 1) := by decide +kernel
theorem dX8_postureOf_0 : decode cX8_postureOf 0 = .ok (.iload_n 0, 1) := by decide +kernel
theorem dX8_postureOf_1 : decode cX8_postureOf 1 = .ok (.istore_n 2, 1) := by decide +kernel
theorem dX8_postureOf_2 : decode cX8_postureOf 2 = .ok (.iconst 4, 1) := by decide +kernel
theorem dX8_postureOf_3 : decode cX8_postureOf 3 = .ok (.istore_n 3, 1) := by decide +kernel
theorem dX8_postureOf_4 : decode cX8_postureOf 4 = .ok (.iload_n 3, 1) := by decide +kernel
theorem dX8_postureOf_5 : decode cX8_postureOf 5 = .ok (.iload_n 1, 1) := by decide +kernel
theorem dX8_postureOf_6 : decode cX8_postureOf 6 = .ok (.if_icmp .le 13, 3) := by decide +kernel
theorem dX8_postureOf_9 : decode cX8_postureOf 9 = .ok (.iload_n 2, 1) := by decide +kernel
theorem dX8_postureOf_10 : decode cX8_postureOf 10 = .ok (.iconst 3, 1) := by decide +kernel
theorem dX8_postureOf_11 : decode cX8_postureOf 11 = .ok (.idiv, 1) := by decide +kernel
theorem dX8_postureOf_12 : decode cX8_postureOf 12 = .ok (.istore_n 2, 1) := by decide +kernel
theorem dX8_postureOf_13 : decode cX8_postureOf 13 = .ok (.iinc 3 (-1), 3) := by decide +kernel
theorem dX8_postureOf_16 : decode cX8_postureOf 16 = .ok (.goto (-12), 3) := by decide +kernel
theorem dX8_postureOf_19 : decode cX8_postureOf 19 = .ok (.iload_n 2, 1) := by decide +kernel
theorem dX8_postureOf_20 : decode cX8_postureOf 20 = .ok (.iconst 3, 1) := by decide +kernel
theorem dX8_postureOf_21 : decode cX8_postureOf 21 = .ok (.irem, 1) := by decide +kernel
theorem dX8_postureOf_22 : decode cX8_postureOf 22 = .ok (.ifCond .ne 7, 3) := by decide +kernel
theorem dX8_postureOf_25 : decode cX8_postureOf 25 = .ok (.iconst 0, 1) := by decide +kernel
theorem dX8_postureOf_26 : decode cX8_postureOf 26 = .ok (.goto 16, 3) := by decide +kernel
theorem dX8_postureOf_29 : decode cX8_postureOf 29 = .ok (.iload_n 2, 1) := by decide +kernel
theorem dX8_postureOf_30 : decode cX8_postureOf 30 = .ok (.iconst 3, 1) := by decide +kernel
theorem dX8_postureOf_31 : decode cX8_postureOf 31 = .ok (.irem, 1) := by decide +kernel
theorem dX8_postureOf_32 : decode cX8_postureOf 32 = .ok (.iconst 1, 1) := by decide +kernel
theorem dX8_postureOf_33 : decode cX8_postureOf 33 = .ok (.if_icmp .ne 7, 3) := by decide +kernel
theorem dX8_postureOf_36 : decode cX8_postureOf 36 = .ok (.iconst 4, 1) := by decide +kernel
theorem dX8_postureOf_37 : decode cX8_postureOf 37 = .ok (.goto 5, 3) := by decide +kernel
theorem dX8_postureOf_40 : decode cX8_postureOf 40 = .ok (.bipush 9, 2) := by decide +kernel
theorem dX8_postureOf_42 : decode cX8_postureOf 42 = .ok (.ireturn, 1) := by decide +kernel
theorem dX8_best_0 : decode cX8_best 0 = .ok (.iload_n 1, 1) := by decide +kernel
theorem dX8_best_1 : decode cX8_best 1 = .ok (.i2l, 1) := by decide +kernel
theorem dX8_best_2 : decode cX8_best 2 = .ok (.lconst 1, 1) := by decide +kernel
theorem dX8_best_3 : decode cX8_best 3 = .ok (.ldc2_w 248, 3) := by decide +kernel
theorem dX8_best_6 : decode cX8_best 6 = .ok (.invokestatic 49, 3) := by decide +kernel
theorem dX8_best_9 : decode cX8_best 9 = .ok (.ifCond .eq 17, 3) := by decide +kernel
theorem dX8_best_12 : decode cX8_best 12 = .ok (.iload_n 2, 1) := by decide +kernel
theorem dX8_best_13 : decode cX8_best 13 = .ok (.i2l, 1) := by decide +kernel
theorem dX8_best_14 : decode cX8_best 14 = .ok (.ldc2_w 30, 3) := by decide +kernel
theorem dX8_best_17 : decode cX8_best 17 = .ok (.ldc2_w 55, 3) := by decide +kernel
theorem dX8_best_20 : decode cX8_best 20 = .ok (.invokestatic 49, 3) := by decide +kernel
theorem dX8_best_23 : decode cX8_best 23 = .ok (.ifCond .ne 10, 3) := by decide +kernel
theorem dX8_best_26 : decode cX8_best 26 = .ok (.aload_n 0, 1) := by decide +kernel
theorem dX8_best_27 : decode cX8_best 27 = .ok (.bipush (-2), 2) := by decide +kernel
theorem dX8_best_29 : decode cX8_best 29 = .ok (.invokevirtual 65, 3) := by decide +kernel
theorem dX8_best_32 : decode cX8_best 32 = .ok (.ireturn, 1) := by decide +kernel
theorem dX8_best_33 : decode cX8_best 33 = .ok (.iconst 0, 1) := by decide +kernel
theorem dX8_best_34 : decode cX8_best 34 = .ok (.istore_n 3, 1) := by decide +kernel
theorem dX8_best_35 : decode cX8_best 35 = .ok (.ldc2_w 30, 3) := by decide +kernel
theorem dX8_best_38 : decode cX8_best 38 = .ok (.lstore 4, 2) := by decide +kernel
theorem dX8_best_40 : decode cX8_best 40 = .ok (.iconst 0, 1) := by decide +kernel
theorem dX8_best_41 : decode cX8_best 41 = .ok (.istore 6, 2) := by decide +kernel
theorem dX8_best_43 : decode cX8_best 43 = .ok (.iload 6, 2) := by decide +kernel
theorem dX8_best_45 : decode cX8_best 45 = .ok (.sipush 243, 3) := by decide +kernel
theorem dX8_best_48 : decode cX8_best 48 = .ok (.if_icmp .ge 95, 3) := by decide +kernel
theorem dX8_best_51 : decode cX8_best 51 = .ok (.aload_n 0, 1) := by decide +kernel
theorem dX8_best_52 : decode cX8_best 52 = .ok (.invokevirtual 224, 3) := by decide +kernel
theorem dX8_best_55 : decode cX8_best 55 = .ok (.aload_n 0, 1) := by decide +kernel
theorem dX8_best_56 : decode cX8_best 56 = .ok (.invokevirtual 227, 3) := by decide +kernel
theorem dX8_best_59 : decode cX8_best 59 = .ok (.iconst 0, 1) := by decide +kernel
theorem dX8_best_60 : decode cX8_best 60 = .ok (.istore 7, 2) := by decide +kernel
theorem dX8_best_62 : decode cX8_best 62 = .ok (.iload 7, 2) := by decide +kernel
theorem dX8_best_64 : decode cX8_best 64 = .ok (.iconst 5, 1) := by decide +kernel
theorem dX8_best_65 : decode cX8_best 65 = .ok (.if_icmp .ge 30, 3) := by decide +kernel
theorem dX8_best_68 : decode cX8_best 68 = .ok (.aload_n 0, 1) := by decide +kernel
theorem dX8_best_69 : decode cX8_best 69 = .ok (.iconst 1, 1) := by decide +kernel
theorem dX8_best_70 : decode cX8_best 70 = .ok (.putfield 145, 3) := by decide +kernel
theorem dX8_best_73 : decode cX8_best 73 = .ok (.aload_n 0, 1) := by decide +kernel
theorem dX8_best_74 : decode cX8_best 74 = .ok (.iload 6, 2) := by decide +kernel
theorem dX8_best_76 : decode cX8_best 76 = .ok (.iload 7, 2) := by decide +kernel
theorem dX8_best_78 : decode cX8_best 78 = .ok (.invokestatic 250, 3) := by decide +kernel
theorem dX8_best_81 : decode cX8_best 81 = .ok (.putfield 148, 3) := by decide +kernel
theorem dX8_best_84 : decode cX8_best 84 = .ok (.aload_n 0, 1) := by decide +kernel
theorem dX8_best_85 : decode cX8_best 85 = .ok (.iload_n 1, 1) := by decide +kernel
theorem dX8_best_86 : decode cX8_best 86 = .ok (.invokevirtual 230, 3) := by decide +kernel
theorem dX8_best_89 : decode cX8_best 89 = .ok (.iinc 7 1, 3) := by decide +kernel
theorem dX8_best_92 : decode cX8_best 92 = .ok (.goto (-30), 3) := by decide +kernel
theorem dX8_best_95 : decode cX8_best 95 = .ok (.aload_n 0, 1) := by decide +kernel
theorem dX8_best_96 : decode cX8_best 96 = .ok (.invokevirtual 233, 3) := by decide +kernel
theorem dX8_best_99 : decode cX8_best 99 = .ok (.aload_n 0, 1) := by decide +kernel
theorem dX8_best_100 : decode cX8_best 100 = .ok (.getfield 215, 3) := by decide +kernel
theorem dX8_best_103 : decode cX8_best 103 = .ok (.lload 4, 2) := by decide +kernel
theorem dX8_best_105 : decode cX8_best 105 = .ok (.lcmp, 1) := by decide +kernel
theorem dX8_best_106 : decode cX8_best 106 = .ok (.ifCond .le 8, 3) := by decide +kernel
theorem dX8_best_109 : decode cX8_best 109 = .ok (.iload 6, 2) := by decide +kernel
theorem dX8_best_111 : decode cX8_best 111 = .ok (.goto 4, 3) := by decide +kernel
theorem dX8_best_114 : decode cX8_best 114 = .ok (.iload_n 3, 1) := by decide +kernel
theorem dX8_best_115 : decode cX8_best 115 = .ok (.istore_n 3, 1) := by decide +kernel
theorem dX8_best_116 : decode cX8_best 116 = .ok (.aload_n 0, 1) := by decide +kernel
theorem dX8_best_117 : decode cX8_best 117 = .ok (.getfield 215, 3) := by decide +kernel
theorem dX8_best_120 : decode cX8_best 120 = .ok (.lload 4, 2) := by decide +kernel
theorem dX8_best_122 : decode cX8_best 122 = .ok (.lcmp, 1) := by decide +kernel
theorem dX8_best_123 : decode cX8_best 123 = .ok (.ifCond .le 10, 3) := by decide +kernel
theorem dX8_best_126 : decode cX8_best 126 = .ok (.aload_n 0, 1) := by decide +kernel
theorem dX8_best_127 : decode cX8_best 127 = .ok (.getfield 215, 3) := by decide +kernel
theorem dX8_best_130 : decode cX8_best 130 = .ok (.goto 5, 3) := by decide +kernel
theorem dX8_best_133 : decode cX8_best 133 = .ok (.lload 4, 2) := by decide +kernel
theorem dX8_best_135 : decode cX8_best 135 = .ok (.lstore 4, 2) := by decide +kernel
theorem dX8_best_137 : decode cX8_best 137 = .ok (.iinc 6 1, 3) := by decide +kernel
theorem dX8_best_140 : decode cX8_best 140 = .ok (.goto (-97), 3) := by decide +kernel
theorem dX8_best_143 : decode cX8_best 143 = .ok (.iload_n 2, 1) := by decide +kernel
theorem dX8_best_144 : decode cX8_best 144 = .ok (.iconst (-1), 1) := by decide +kernel
theorem dX8_best_145 : decode cX8_best 145 = .ok (.if_icmp .ne 9, 3) := by decide +kernel
theorem dX8_best_148 : decode cX8_best 148 = .ok (.lload 4, 2) := by decide +kernel
theorem dX8_best_150 : decode cX8_best 150 = .ok (.l2i, 1) := by decide +kernel
theorem dX8_best_151 : decode cX8_best 151 = .ok (.goto 8, 3) := by decide +kernel
theorem dX8_best_154 : decode cX8_best 154 = .ok (.iload_n 3, 1) := by decide +kernel
theorem dX8_best_155 : decode cX8_best 155 = .ok (.iload_n 2, 1) := by decide +kernel
theorem dX8_best_156 : decode cX8_best 156 = .ok (.invokestatic 250, 3) := by decide +kernel
theorem dX8_best_159 : decode cX8_best 159 = .ok (.ireturn, 1) := by decide +kernel
theorem dX8_when_0 : decode cX8_when 0 = .ok (.iload_n 1, 1) := by decide +kernel
theorem dX8_when_1 : decode cX8_when 1 = .ok (.invokestatic 138, 3) := by decide +kernel
theorem dX8_when_4 : decode cX8_when 4 = .ok (.ifCond .eq 33, 3) := by decide +kernel
theorem dX8_when_7 : decode cX8_when 7 = .ok (.iload_n 2, 1) := by decide +kernel
theorem dX8_when_8 : decode cX8_when 8 = .ok (.invokestatic 201, 3) := by decide +kernel
theorem dX8_when_11 : decode cX8_when 11 = .ok (.ifCond .eq 26, 3) := by decide +kernel
theorem dX8_when_14 : decode cX8_when 14 = .ok (.iload_n 3, 1) := by decide +kernel
theorem dX8_when_15 : decode cX8_when 15 = .ok (.i2l, 1) := by decide +kernel
theorem dX8_when_16 : decode cX8_when 16 = .ok (.lconst 1, 1) := by decide +kernel
theorem dX8_when_17 : decode cX8_when 17 = .ok (.ldc2_w 185, 3) := by decide +kernel
theorem dX8_when_20 : decode cX8_when 20 = .ok (.invokestatic 49, 3) := by decide +kernel
theorem dX8_when_23 : decode cX8_when 23 = .ok (.ifCond .eq 14, 3) := by decide +kernel
theorem dX8_when_26 : decode cX8_when 26 = .ok (.iload 4, 2) := by decide +kernel
theorem dX8_when_28 : decode cX8_when 28 = .ok (.i2l, 1) := by decide +kernel
theorem dX8_when_29 : decode cX8_when 29 = .ok (.lconst 0, 1) := by decide +kernel
theorem dX8_when_30 : decode cX8_when 30 = .ok (.lconst 1, 1) := by decide +kernel
theorem dX8_when_31 : decode cX8_when 31 = .ok (.invokestatic 49, 3) := by decide +kernel
theorem dX8_when_34 : decode cX8_when 34 = .ok (.ifCond .ne 10, 3) := by decide +kernel
theorem dX8_when_37 : decode cX8_when 37 = .ok (.aload_n 0, 1) := by decide +kernel
theorem dX8_when_38 : decode cX8_when 38 = .ok (.bipush (-2), 2) := by decide +kernel
theorem dX8_when_40 : decode cX8_when 40 = .ok (.invokevirtual 65, 3) := by decide +kernel
theorem dX8_when_43 : decode cX8_when 43 = .ok (.ireturn, 1) := by decide +kernel
theorem dX8_when_44 : decode cX8_when 44 = .ok (.iconst 0, 1) := by decide +kernel
theorem dX8_when_45 : decode cX8_when 45 = .ok (.istore 5, 2) := by decide +kernel
theorem dX8_when_47 : decode cX8_when 47 = .ok (.iconst 0, 1) := by decide +kernel
theorem dX8_when_48 : decode cX8_when 48 = .ok (.istore 6, 2) := by decide +kernel
theorem dX8_when_50 : decode cX8_when 50 = .ok (.iconst 0, 1) := by decide +kernel
theorem dX8_when_51 : decode cX8_when 51 = .ok (.istore 7, 2) := by decide +kernel
theorem dX8_when_53 : decode cX8_when 53 = .ok (.iconst 0, 1) := by decide +kernel
theorem dX8_when_54 : decode cX8_when 54 = .ok (.istore 8, 2) := by decide +kernel
theorem dX8_when_56 : decode cX8_when 56 = .ok (.iload 8, 2) := by decide +kernel
theorem dX8_when_58 : decode cX8_when 58 = .ok (.iload_n 3, 1) := by decide +kernel
theorem dX8_when_59 : decode cX8_when 59 = .ok (.if_icmp .ge 54, 3) := by decide +kernel
theorem dX8_when_62 : decode cX8_when 62 = .ok (.aload_n 0, 1) := by decide +kernel
theorem dX8_when_63 : decode cX8_when 63 = .ok (.iload 8, 2) := by decide +kernel
theorem dX8_when_65 : decode cX8_when 65 = .ok (.iload_n 1, 1) := by decide +kernel
theorem dX8_when_66 : decode cX8_when 66 = .ok (.iload_n 2, 1) := by decide +kernel
theorem dX8_when_67 : decode cX8_when 67 = .ok (.invokevirtual 241, 3) := by decide +kernel
theorem dX8_when_70 : decode cX8_when 70 = .ok (.istore 9, 2) := by decide +kernel
theorem dX8_when_72 : decode cX8_when 72 = .ok (.iload 8, 2) := by decide +kernel
theorem dX8_when_74 : decode cX8_when 74 = .ok (.ifCond .eq 10, 3) := by decide +kernel
theorem dX8_when_77 : decode cX8_when 77 = .ok (.iload 9, 2) := by decide +kernel
theorem dX8_when_79 : decode cX8_when 79 = .ok (.iload 6, 2) := by decide +kernel
theorem dX8_when_81 : decode cX8_when 81 = .ok (.if_icmp .le 11, 3) := by decide +kernel
theorem dX8_when_84 : decode cX8_when 84 = .ok (.iload 8, 2) := by decide +kernel
theorem dX8_when_86 : decode cX8_when 86 = .ok (.istore 5, 2) := by decide +kernel
theorem dX8_when_88 : decode cX8_when 88 = .ok (.iload 9, 2) := by decide +kernel
theorem dX8_when_90 : decode cX8_when 90 = .ok (.istore 6, 2) := by decide +kernel
theorem dX8_when_92 : decode cX8_when 92 = .ok (.iload 7, 2) := by decide +kernel
theorem dX8_when_94 : decode cX8_when 94 = .ok (.iload 9, 2) := by decide +kernel
theorem dX8_when_96 : decode cX8_when 96 = .ok (.ifCond .ge 7, 3) := by decide +kernel
theorem dX8_when_99 : decode cX8_when 99 = .ok (.iconst 1, 1) := by decide +kernel
theorem dX8_when_100 : decode cX8_when 100 = .ok (.goto 4, 3) := by decide +kernel
theorem dX8_when_103 : decode cX8_when 103 = .ok (.iconst 0, 1) := by decide +kernel
theorem dX8_when_104 : decode cX8_when 104 = .ok (.iadd, 1) := by decide +kernel
theorem dX8_when_105 : decode cX8_when 105 = .ok (.istore 7, 2) := by decide +kernel
theorem dX8_when_107 : decode cX8_when 107 = .ok (.iinc 8 1, 3) := by decide +kernel
theorem dX8_when_110 : decode cX8_when 110 = .ok (.goto (-54), 3) := by decide +kernel
theorem dX8_when_113 : decode cX8_when 113 = .ok (.iload 4, 2) := by decide +kernel
theorem dX8_when_115 : decode cX8_when 115 = .ok (.ifCond .ne 8, 3) := by decide +kernel
theorem dX8_when_118 : decode cX8_when 118 = .ok (.iload 5, 2) := by decide +kernel
theorem dX8_when_120 : decode cX8_when 120 = .ok (.goto 5, 3) := by decide +kernel
theorem dX8_when_123 : decode cX8_when 123 = .ok (.iload 7, 2) := by decide +kernel
theorem dX8_when_125 : decode cX8_when 125 = .ok (.ireturn, 1) := by decide +kernel
theorem dX8_farNow_0 : decode cX8_farNow 0 = .ok (.aload_n 0, 1) := by decide +kernel
theorem dX8_farNow_1 : decode cX8_farNow 1 = .ok (.invokevirtual 160, 3) := by decide +kernel
theorem dX8_farNow_4 : decode cX8_farNow 4 = .ok (.lstore_n 1, 1) := by decide +kernel
theorem dX8_farNow_5 : decode cX8_farNow 5 = .ok (.ldc2_w 45, 3) := by decide +kernel
theorem dX8_farNow_8 : decode cX8_farNow 8 = .ok (.lload_n 1, 1) := by decide +kernel
theorem dX8_farNow_9 : decode cX8_farNow 9 = .ok (.aload_n 0, 1) := by decide +kernel
theorem dX8_farNow_10 : decode cX8_farNow 10 = .ok (.getfield 7, 3) := by decide +kernel
theorem dX8_farNow_13 : decode cX8_farNow 13 = .ok (.iconst 0, 1) := by decide +kernel
theorem dX8_farNow_14 : decode cX8_farNow 14 = .ok (.laload, 1) := by decide +kernel
theorem dX8_farNow_15 : decode cX8_farNow 15 = .ok (.ldc2_w 172, 3) := by decide +kernel
theorem dX8_farNow_18 : decode cX8_farNow 18 = .ok (.ldiv, 1) := by decide +kernel
theorem dX8_farNow_19 : decode cX8_farNow 19 = .ok (.lmul, 1) := by decide +kernel
theorem dX8_farNow_20 : decode cX8_farNow 20 = .ok (.aload_n 0, 1) := by decide +kernel
theorem dX8_farNow_21 : decode cX8_farNow 21 = .ok (.getfield 7, 3) := by decide +kernel
theorem dX8_farNow_24 : decode cX8_farNow 24 = .ok (.iconst 0, 1) := by decide +kernel
theorem dX8_farNow_25 : decode cX8_farNow 25 = .ok (.laload, 1) := by decide +kernel
theorem dX8_farNow_26 : decode cX8_farNow 26 = .ok (.ldc2_w 172, 3) := by decide +kernel
theorem dX8_farNow_29 : decode cX8_farNow 29 = .ok (.ldiv, 1) := by decide +kernel
theorem dX8_farNow_30 : decode cX8_farNow 30 = .ok (.lmul, 1) := by decide +kernel
theorem dX8_farNow_31 : decode cX8_farNow 31 = .ok (.ldc2_w 254, 3) := by decide +kernel
theorem dX8_farNow_34 : decode cX8_farNow 34 = .ok (.ldiv, 1) := by decide +kernel
theorem dX8_farNow_35 : decode cX8_farNow 35 = .ok (.ladd, 1) := by decide +kernel
theorem dX8_farNow_36 : decode cX8_farNow 36 = .ok (.lstore_n 3, 1) := by decide +kernel
theorem dX8_farNow_37 : decode cX8_farNow 37 = .ok (.lconst 0, 1) := by decide +kernel
theorem dX8_farNow_38 : decode cX8_farNow 38 = .ok (.lstore 5, 2) := by decide +kernel
theorem dX8_farNow_40 : decode cX8_farNow 40 = .ok (.aload_n 0, 1) := by decide +kernel
theorem dX8_farNow_41 : decode cX8_farNow 41 = .ok (.iconst 1, 1) := by decide +kernel
theorem dX8_farNow_42 : decode cX8_farNow 42 = .ok (.invokevirtual 69, 3) := by decide +kernel
theorem dX8_farNow_45 : decode cX8_farNow 45 = .ok (.lload 5, 2) := by decide +kernel
theorem dX8_farNow_47 : decode cX8_farNow 47 = .ok (.lmul, 1) := by decide +kernel
theorem dX8_farNow_48 : decode cX8_farNow 48 = .ok (.lload 5, 2) := by decide +kernel
theorem dX8_farNow_50 : decode cX8_farNow 50 = .ok (.lmul, 1) := by decide +kernel
theorem dX8_farNow_51 : decode cX8_farNow 51 = .ok (.ldc2_w 41, 3) := by decide +kernel
theorem dX8_farNow_54 : decode cX8_farNow 54 = .ok (.lload_n 3, 1) := by decide +kernel
theorem dX8_farNow_55 : decode cX8_farNow 55 = .ok (.lmul, 1) := by decide +kernel
theorem dX8_farNow_56 : decode cX8_farNow 56 = .ok (.lcmp, 1) := by decide +kernel
theorem dX8_farNow_57 : decode cX8_farNow 57 = .ok (.ifCond .ge 12, 3) := by decide +kernel
theorem dX8_farNow_60 : decode cX8_farNow 60 = .ok (.lload 5, 2) := by decide +kernel
theorem dX8_farNow_62 : decode cX8_farNow 62 = .ok (.lconst 1, 1) := by decide +kernel
theorem dX8_farNow_63 : decode cX8_farNow 63 = .ok (.ladd, 1) := by decide +kernel
theorem dX8_farNow_64 : decode cX8_farNow 64 = .ok (.lstore 5, 2) := by decide +kernel
theorem dX8_farNow_66 : decode cX8_farNow 66 = .ok (.goto (-26), 3) := by decide +kernel
theorem dX8_farNow_69 : decode cX8_farNow 69 = .ok (.aload_n 0, 1) := by decide +kernel
theorem dX8_farNow_70 : decode cX8_farNow 70 = .ok (.getfield 7, 3) := by decide +kernel
theorem dX8_farNow_73 : decode cX8_farNow 73 = .ok (.iconst 0, 1) := by decide +kernel
theorem dX8_farNow_74 : decode cX8_farNow 74 = .ok (.laload, 1) := by decide +kernel
theorem dX8_farNow_75 : decode cX8_farNow 75 = .ok (.aload_n 0, 1) := by decide +kernel
theorem dX8_farNow_76 : decode cX8_farNow 76 = .ok (.getfield 7, 3) := by decide +kernel
theorem dX8_farNow_79 : decode cX8_farNow 79 = .ok (.iconst 1, 1) := by decide +kernel
theorem dX8_farNow_80 : decode cX8_farNow 80 = .ok (.laload, 1) := by decide +kernel
theorem dX8_farNow_81 : decode cX8_farNow 81 = .ok (.lload 5, 2) := by decide +kernel
theorem dX8_farNow_83 : decode cX8_farNow 83 = .ok (.lmul, 1) := by decide +kernel
theorem dX8_farNow_84 : decode cX8_farNow 84 = .ok (.ladd, 1) := by decide +kernel
theorem dX8_farNow_85 : decode cX8_farNow 85 = .ok (.lload_n 1, 1) := by decide +kernel
theorem dX8_farNow_86 : decode cX8_farNow 86 = .ok (.lmul, 1) := by decide +kernel
theorem dX8_farNow_87 : decode cX8_farNow 87 = .ok (.ldc2_w 172, 3) := by decide +kernel
theorem dX8_farNow_90 : decode cX8_farNow 90 = .ok (.ldiv, 1) := by decide +kernel
theorem dX8_farNow_91 : decode cX8_farNow 91 = .ok (.l2i, 1) := by decide +kernel
theorem dX8_farNow_92 : decode cX8_farNow 92 = .ok (.ireturn, 1) := by decide +kernel
theorem dX8_far_0 : decode cX8_far 0 = .ok (.iload_n 1, 1) := by decide +kernel
theorem dX8_far_1 : decode cX8_far 1 = .ok (.i2l, 1) := by decide +kernel
theorem dX8_far_2 : decode cX8_far 2 = .ok (.lconst 0, 1) := by decide +kernel
theorem dX8_far_3 : decode cX8_far 3 = .ok (.ldc2_w 256, 3) := by decide +kernel
theorem dX8_far_6 : decode cX8_far 6 = .ok (.invokestatic 49, 3) := by decide +kernel
theorem dX8_far_9 : decode cX8_far 9 = .ok (.ifCond .ne 11, 3) := by decide +kernel
theorem dX8_far_12 : decode cX8_far 12 = .ok (.aload_n 0, 1) := by decide +kernel
theorem dX8_far_13 : decode cX8_far 13 = .ok (.ldc_w 258, 3) := by decide +kernel
theorem dX8_far_16 : decode cX8_far 16 = .ok (.invokevirtual 65, 3) := by decide +kernel
theorem dX8_far_19 : decode cX8_far 19 = .ok (.ireturn, 1) := by decide +kernel
theorem dX8_far_20 : decode cX8_far 20 = .ok (.aload_n 0, 1) := by decide +kernel
theorem dX8_far_21 : decode cX8_far 21 = .ok (.invokevirtual 224, 3) := by decide +kernel
theorem dX8_far_24 : decode cX8_far 24 = .ok (.aload_n 0, 1) := by decide +kernel
theorem dX8_far_25 : decode cX8_far 25 = .ok (.invokevirtual 227, 3) := by decide +kernel
theorem dX8_far_28 : decode cX8_far 28 = .ok (.aload_n 0, 1) := by decide +kernel
theorem dX8_far_29 : decode cX8_far 29 = .ok (.iload_n 1, 1) := by decide +kernel
theorem dX8_far_30 : decode cX8_far 30 = .ok (.invokevirtual 230, 3) := by decide +kernel
theorem dX8_far_33 : decode cX8_far 33 = .ok (.aload_n 0, 1) := by decide +kernel
theorem dX8_far_34 : decode cX8_far 34 = .ok (.invokevirtual 259, 3) := by decide +kernel
theorem dX8_far_37 : decode cX8_far 37 = .ok (.istore_n 2, 1) := by decide +kernel
theorem dX8_far_38 : decode cX8_far 38 = .ok (.aload_n 0, 1) := by decide +kernel
theorem dX8_far_39 : decode cX8_far 39 = .ok (.invokevirtual 233, 3) := by decide +kernel
theorem dX8_far_42 : decode cX8_far 42 = .ok (.iload_n 2, 1) := by decide +kernel
theorem dX8_far_43 : decode cX8_far 43 = .ok (.ireturn, 1) := by decide +kernel
theorem dX8_farthest_0 : decode cX8_farthest 0 = .ok (.iload_n 1, 1) := by decide +kernel
theorem dX8_farthest_1 : decode cX8_farthest 1 = .ok (.i2l, 1) := by decide +kernel
theorem dX8_farthest_2 : decode cX8_farthest 2 = .ok (.lconst 0, 1) := by decide +kernel
theorem dX8_farthest_3 : decode cX8_farthest 3 = .ok (.ldc2_w 256, 3) := by decide +kernel
theorem dX8_farthest_6 : decode cX8_farthest 6 = .ok (.invokestatic 49, 3) := by decide +kernel
theorem dX8_farthest_9 : decode cX8_farthest 9 = .ok (.ifCond .ne 10, 3) := by decide +kernel
theorem dX8_farthest_12 : decode cX8_farthest 12 = .ok (.aload_n 0, 1) := by decide +kernel
theorem dX8_farthest_13 : decode cX8_farthest 13 = .ok (.bipush (-2), 2) := by decide +kernel
theorem dX8_farthest_15 : decode cX8_farthest 15 = .ok (.invokevirtual 65, 3) := by decide +kernel
theorem dX8_farthest_18 : decode cX8_farthest 18 = .ok (.ireturn, 1) := by decide +kernel
theorem dX8_farthest_19 : decode cX8_farthest 19 = .ok (.aload_n 0, 1) := by decide +kernel
theorem dX8_farthest_20 : decode cX8_farthest 20 = .ok (.invokevirtual 224, 3) := by decide +kernel
theorem dX8_farthest_23 : decode cX8_farthest 23 = .ok (.aload_n 0, 1) := by decide +kernel
theorem dX8_farthest_24 : decode cX8_farthest 24 = .ok (.invokevirtual 227, 3) := by decide +kernel
theorem dX8_farthest_27 : decode cX8_farthest 27 = .ok (.iconst 0, 1) := by decide +kernel
theorem dX8_farthest_28 : decode cX8_farthest 28 = .ok (.istore_n 2, 1) := by decide +kernel
theorem dX8_farthest_29 : decode cX8_farthest 29 = .ok (.aload_n 0, 1) := by decide +kernel
theorem dX8_farthest_30 : decode cX8_farthest 30 = .ok (.invokevirtual 259, 3) := by decide +kernel
theorem dX8_farthest_33 : decode cX8_farthest 33 = .ok (.istore_n 3, 1) := by decide +kernel
theorem dX8_farthest_34 : decode cX8_farthest 34 = .ok (.iconst 1, 1) := by decide +kernel
theorem dX8_farthest_35 : decode cX8_farthest 35 = .ok (.istore 4, 2) := by decide +kernel
theorem dX8_farthest_37 : decode cX8_farthest 37 = .ok (.iload 4, 2) := by decide +kernel
theorem dX8_farthest_39 : decode cX8_farthest 39 = .ok (.iload_n 1, 1) := by decide +kernel
theorem dX8_farthest_40 : decode cX8_farthest 40 = .ok (.if_icmp .gt 45, 3) := by decide +kernel
theorem dX8_farthest_43 : decode cX8_farthest 43 = .ok (.aload_n 0, 1) := by decide +kernel
theorem dX8_farthest_44 : decode cX8_farthest 44 = .ok (.invokevirtual 204, 3) := by decide +kernel
theorem dX8_farthest_47 : decode cX8_farthest 47 = .ok (.aload_n 0, 1) := by decide +kernel
theorem dX8_farthest_48 : decode cX8_farthest 48 = .ok (.invokevirtual 259, 3) := by decide +kernel
theorem dX8_farthest_51 : decode cX8_farthest 51 = .ok (.istore 5, 2) := by decide +kernel
theorem dX8_farthest_53 : decode cX8_farthest 53 = .ok (.iload 5, 2) := by decide +kernel
theorem dX8_farthest_55 : decode cX8_farthest 55 = .ok (.iload_n 3, 1) := by decide +kernel
theorem dX8_farthest_56 : decode cX8_farthest 56 = .ok (.if_icmp .le 8, 3) := by decide +kernel
theorem dX8_farthest_59 : decode cX8_farthest 59 = .ok (.iload 4, 2) := by decide +kernel
theorem dX8_farthest_61 : decode cX8_farthest 61 = .ok (.goto 4, 3) := by decide +kernel
theorem dX8_farthest_64 : decode cX8_farthest 64 = .ok (.iload_n 2, 1) := by decide +kernel
theorem dX8_farthest_65 : decode cX8_farthest 65 = .ok (.istore_n 2, 1) := by decide +kernel
theorem dX8_farthest_66 : decode cX8_farthest 66 = .ok (.iload 5, 2) := by decide +kernel
theorem dX8_farthest_68 : decode cX8_farthest 68 = .ok (.iload_n 3, 1) := by decide +kernel
theorem dX8_farthest_69 : decode cX8_farthest 69 = .ok (.if_icmp .le 8, 3) := by decide +kernel
theorem dX8_farthest_72 : decode cX8_farthest 72 = .ok (.iload 5, 2) := by decide +kernel
theorem dX8_farthest_74 : decode cX8_farthest 74 = .ok (.goto 4, 3) := by decide +kernel
theorem dX8_farthest_77 : decode cX8_farthest 77 = .ok (.iload_n 3, 1) := by decide +kernel
theorem dX8_farthest_78 : decode cX8_farthest 78 = .ok (.istore_n 3, 1) := by decide +kernel
theorem dX8_farthest_79 : decode cX8_farthest 79 = .ok (.iinc 4 1, 3) := by decide +kernel
theorem dX8_farthest_82 : decode cX8_farthest 82 = .ok (.goto (-45), 3) := by decide +kernel
theorem dX8_farthest_85 : decode cX8_farthest 85 = .ok (.aload_n 0, 1) := by decide +kernel
theorem dX8_farthest_86 : decode cX8_farthest 86 = .ok (.invokevirtual 233, 3) := by decide +kernel
theorem dX8_farthest_89 : decode cX8_farthest 89 = .ok (.iload_n 2, 1) := by decide +kernel
theorem dX8_farthest_90 : decode cX8_farthest 90 = .ok (.ireturn, 1) := by decide +kernel
theorem dX8_swaps_0 : decode cX8_swaps 0 = .ok (.iload_n 1, 1) := by decide +kernel
theorem dX8_swaps_1 : decode cX8_swaps 1 = .ok (.invokestatic 201, 3) := by decide +kernel
theorem dX8_swaps_4 : decode cX8_swaps 4 = .ok (.ifCond .eq 13, 3) := by decide +kernel
theorem dX8_swaps_7 : decode cX8_swaps 7 = .ok (.iload_n 2, 1) := by decide +kernel
theorem dX8_swaps_8 : decode cX8_swaps 8 = .ok (.i2l, 1) := by decide +kernel
theorem dX8_swaps_9 : decode cX8_swaps 9 = .ok (.lconst 0, 1) := by decide +kernel
theorem dX8_swaps_10 : decode cX8_swaps 10 = .ok (.lconst 1, 1) := by decide +kernel
theorem dX8_swaps_11 : decode cX8_swaps 11 = .ok (.invokestatic 49, 3) := by decide +kernel
theorem dX8_swaps_14 : decode cX8_swaps 14 = .ok (.ifCond .ne 10, 3) := by decide +kernel
theorem dX8_swaps_17 : decode cX8_swaps 17 = .ok (.aload_n 0, 1) := by decide +kernel
theorem dX8_swaps_18 : decode cX8_swaps 18 = .ok (.bipush (-2), 2) := by decide +kernel
theorem dX8_swaps_20 : decode cX8_swaps 20 = .ok (.invokevirtual 65, 3) := by decide +kernel
theorem dX8_swaps_23 : decode cX8_swaps 23 = .ok (.ireturn, 1) := by decide +kernel
theorem dX8_swaps_24 : decode cX8_swaps 24 = .ok (.aload_n 0, 1) := by decide +kernel
theorem dX8_swaps_25 : decode cX8_swaps 25 = .ok (.iload_n 1, 1) := by decide +kernel
theorem dX8_swaps_26 : decode cX8_swaps 26 = .ok (.invokevirtual 236, 3) := by decide +kernel
theorem dX8_swaps_29 : decode cX8_swaps 29 = .ok (.iload_n 2, 1) := by decide +kernel
theorem dX8_swaps_30 : decode cX8_swaps 30 = .ok (.ifCond .ne 11, 3) := by decide +kernel
theorem dX8_swaps_33 : decode cX8_swaps 33 = .ok (.aload_n 0, 1) := by decide +kernel
theorem dX8_swaps_34 : decode cX8_swaps 34 = .ok (.getfield 218, 3) := by decide +kernel
theorem dX8_swaps_37 : decode cX8_swaps 37 = .ok (.l2i, 1) := by decide +kernel
theorem dX8_swaps_38 : decode cX8_swaps 38 = .ok (.goto 7, 3) := by decide +kernel
theorem dX8_swaps_41 : decode cX8_swaps 41 = .ok (.aload_n 0, 1) := by decide +kernel
theorem dX8_swaps_42 : decode cX8_swaps 42 = .ok (.getfield 221, 3) := by decide +kernel
theorem dX8_swaps_45 : decode cX8_swaps 45 = .ok (.ireturn, 1) := by decide +kernel
theorem dX8_pumps_0 : decode cX8_pumps 0 = .ok (.aload_n 0, 1) := by decide +kernel
theorem dX8_pumps_1 : decode cX8_pumps 1 = .ok (.invokevirtual 224, 3) := by decide +kernel
theorem dX8_pumps_4 : decode cX8_pumps 4 = .ok (.aload_n 0, 1) := by decide +kernel
theorem dX8_pumps_5 : decode cX8_pumps 5 = .ok (.lload_n 2, 1) := by decide +kernel
theorem dX8_pumps_6 : decode cX8_pumps 6 = .ok (.invokevirtual 245, 3) := by decide +kernel
theorem dX8_pumps_9 : decode cX8_pumps 9 = .ok (.aload_n 0, 1) := by decide +kernel
theorem dX8_pumps_10 : decode cX8_pumps 10 = .ok (.invokevirtual 227, 3) := by decide +kernel
theorem dX8_pumps_13 : decode cX8_pumps 13 = .ok (.aload_n 0, 1) := by decide +kernel
theorem dX8_pumps_14 : decode cX8_pumps 14 = .ok (.iconst 2, 1) := by decide +kernel
theorem dX8_pumps_15 : decode cX8_pumps 15 = .ok (.putfield 145, 3) := by decide +kernel
theorem dX8_pumps_18 : decode cX8_pumps 18 = .ok (.aload_n 0, 1) := by decide +kernel
theorem dX8_pumps_19 : decode cX8_pumps 19 = .ok (.iload_n 1, 1) := by decide +kernel
theorem dX8_pumps_20 : decode cX8_pumps 20 = .ok (.putfield 148, 3) := by decide +kernel
theorem dX8_pumps_23 : decode cX8_pumps 23 = .ok (.aload_n 0, 1) := by decide +kernel
theorem dX8_pumps_24 : decode cX8_pumps 24 = .ok (.iload 4, 2) := by decide +kernel
theorem dX8_pumps_26 : decode cX8_pumps 26 = .ok (.invokevirtual 230, 3) := by decide +kernel
theorem dX8_pumps_29 : decode cX8_pumps 29 = .ok (.aload_n 0, 1) := by decide +kernel
theorem dX8_pumps_30 : decode cX8_pumps 30 = .ok (.invokevirtual 233, 3) := by decide +kernel
theorem dX8_pumps_33 : decode cX8_pumps 33 = .ok (.aload_n 0, 1) := by decide +kernel
theorem dX8_pumps_34 : decode cX8_pumps 34 = .ok (.getfield 187, 3) := by decide +kernel
theorem dX8_pumps_37 : decode cX8_pumps 37 = .ok (.ifCond .le 16, 3) := by decide +kernel
theorem dX8_pumps_40 : decode cX8_pumps 40 = .ok (.aload_n 0, 1) := by decide +kernel
theorem dX8_pumps_41 : decode cX8_pumps 41 = .ok (.getfield 193, 3) := by decide +kernel
theorem dX8_pumps_44 : decode cX8_pumps 44 = .ok (.lload_n 2, 1) := by decide +kernel
theorem dX8_pumps_45 : decode cX8_pumps 45 = .ok (.lcmp, 1) := by decide +kernel
theorem dX8_pumps_46 : decode cX8_pumps 46 = .ok (.ifCond .le 7, 3) := by decide +kernel
theorem dX8_pumps_49 : decode cX8_pumps 49 = .ok (.iconst 1, 1) := by decide +kernel
theorem dX8_pumps_50 : decode cX8_pumps 50 = .ok (.goto 4, 3) := by decide +kernel
theorem dX8_pumps_53 : decode cX8_pumps 53 = .ok (.iconst 0, 1) := by decide +kernel
theorem dX8_pumps_54 : decode cX8_pumps 54 = .ok (.ireturn, 1) := by decide +kernel
theorem dX8_simplest_0 : decode cX8_simplest 0 = .ok (.iload_n 1, 1) := by decide +kernel
theorem dX8_simplest_1 : decode cX8_simplest 1 = .ok (.i2l, 1) := by decide +kernel
theorem dX8_simplest_2 : decode cX8_simplest 2 = .ok (.lconst 1, 1) := by decide +kernel
theorem dX8_simplest_3 : decode cX8_simplest 3 = .ok (.ldc2_w 262, 3) := by decide +kernel
theorem dX8_simplest_6 : decode cX8_simplest 6 = .ok (.invokestatic 49, 3) := by decide +kernel
theorem dX8_simplest_9 : decode cX8_simplest 9 = .ok (.ifCond .ne 10, 3) := by decide +kernel
theorem dX8_simplest_12 : decode cX8_simplest 12 = .ok (.aload_n 0, 1) := by decide +kernel
theorem dX8_simplest_13 : decode cX8_simplest 13 = .ok (.bipush (-2), 2) := by decide +kernel
theorem dX8_simplest_15 : decode cX8_simplest 15 = .ok (.invokevirtual 65, 3) := by decide +kernel
theorem dX8_simplest_18 : decode cX8_simplest 18 = .ok (.ireturn, 1) := by decide +kernel
theorem dX8_simplest_19 : decode cX8_simplest 19 = .ok (.iconst 0, 1) := by decide +kernel
theorem dX8_simplest_20 : decode cX8_simplest 20 = .ok (.istore_n 2, 1) := by decide +kernel
theorem dX8_simplest_21 : decode cX8_simplest 21 = .ok (.iload_n 2, 1) := by decide +kernel
theorem dX8_simplest_22 : decode cX8_simplest 22 = .ok (.bipush 20, 2) := by decide +kernel
theorem dX8_simplest_24 : decode cX8_simplest 24 = .ok (.if_icmp .gt 47, 3) := by decide +kernel
theorem dX8_simplest_27 : decode cX8_simplest 27 = .ok (.aload_n 0, 1) := by decide +kernel
theorem dX8_simplest_28 : decode cX8_simplest 28 = .ok (.iload_n 2, 1) := by decide +kernel
theorem dX8_simplest_29 : decode cX8_simplest 29 = .ok (.ldc2_w 264, 3) := by decide +kernel
theorem dX8_simplest_32 : decode cX8_simplest 32 = .ok (.iload_n 1, 1) := by decide +kernel
theorem dX8_simplest_33 : decode cX8_simplest 33 = .ok (.invokevirtual 266, 3) := by decide +kernel
theorem dX8_simplest_36 : decode cX8_simplest 36 = .ok (.ifCond .eq 29, 3) := by decide +kernel
theorem dX8_simplest_39 : decode cX8_simplest 39 = .ok (.aload_n 0, 1) := by decide +kernel
theorem dX8_simplest_40 : decode cX8_simplest 40 = .ok (.iload_n 2, 1) := by decide +kernel
theorem dX8_simplest_41 : decode cX8_simplest 41 = .ok (.ldc2_w 270, 3) := by decide +kernel
theorem dX8_simplest_44 : decode cX8_simplest 44 = .ok (.iload_n 1, 1) := by decide +kernel
theorem dX8_simplest_45 : decode cX8_simplest 45 = .ok (.invokevirtual 266, 3) := by decide +kernel
theorem dX8_simplest_48 : decode cX8_simplest 48 = .ok (.ifCond .eq 17, 3) := by decide +kernel
theorem dX8_simplest_51 : decode cX8_simplest 51 = .ok (.aload_n 0, 1) := by decide +kernel
theorem dX8_simplest_52 : decode cX8_simplest 52 = .ok (.iload_n 2, 1) := by decide +kernel
theorem dX8_simplest_53 : decode cX8_simplest 53 = .ok (.ldc2_w 272, 3) := by decide +kernel
theorem dX8_simplest_56 : decode cX8_simplest 56 = .ok (.iload_n 1, 1) := by decide +kernel
theorem dX8_simplest_57 : decode cX8_simplest 57 = .ok (.invokevirtual 266, 3) := by decide +kernel
theorem dX8_simplest_60 : decode cX8_simplest 60 = .ok (.ifCond .eq 5, 3) := by decide +kernel
theorem dX8_simplest_63 : decode cX8_simplest 63 = .ok (.iload_n 2, 1) := by decide +kernel
theorem dX8_simplest_64 : decode cX8_simplest 64 = .ok (.ireturn, 1) := by decide +kernel
theorem dX8_simplest_65 : decode cX8_simplest 65 = .ok (.iinc 2 1, 3) := by decide +kernel
theorem dX8_simplest_68 : decode cX8_simplest 68 = .ok (.goto (-47), 3) := by decide +kernel
theorem dX8_simplest_71 : decode cX8_simplest 71 = .ok (.iconst (-1), 1) := by decide +kernel
theorem dX8_simplest_72 : decode cX8_simplest 72 = .ok (.ireturn, 1) := by decide +kernel
theorem dX8_image_0 : decode cX8_image 0 = .ok (.iload_n 1, 1) := by decide +kernel
theorem dX8_image_1 : decode cX8_image 1 = .ok (.i2l, 1) := by decide +kernel
theorem dX8_image_2 : decode cX8_image 2 = .ok (.lconst 0, 1) := by decide +kernel
theorem dX8_image_3 : decode cX8_image 3 = .ok (.lconst 1, 1) := by decide +kernel
theorem dX8_image_4 : decode cX8_image 4 = .ok (.invokestatic 49, 3) := by decide +kernel
theorem dX8_image_7 : decode cX8_image 7 = .ok (.ifCond .ne 10, 3) := by decide +kernel
theorem dX8_image_10 : decode cX8_image 10 = .ok (.aload_n 0, 1) := by decide +kernel
theorem dX8_image_11 : decode cX8_image 11 = .ok (.bipush (-2), 2) := by decide +kernel
theorem dX8_image_13 : decode cX8_image 13 = .ok (.invokevirtual 65, 3) := by decide +kernel
theorem dX8_image_16 : decode cX8_image 16 = .ok (.ireturn, 1) := by decide +kernel
theorem dX8_image_17 : decode cX8_image 17 = .ok (.iconst 0, 1) := by decide +kernel
theorem dX8_image_18 : decode cX8_image 18 = .ok (.istore_n 2, 1) := by decide +kernel
theorem dX8_image_19 : decode cX8_image 19 = .ok (.iload_n 2, 1) := by decide +kernel
theorem dX8_image_20 : decode cX8_image 20 = .ok (.sipush 139, 3) := by decide +kernel
theorem dX8_image_23 : decode cX8_image 23 = .ok (.if_icmp .ge 27, 3) := by decide +kernel
theorem dX8_image_26 : decode cX8_image 26 = .ok (.aload_n 0, 1) := by decide +kernel
theorem dX8_image_27 : decode cX8_image 27 = .ok (.getfield 13, 3) := by decide +kernel
theorem dX8_image_30 : decode cX8_image 30 = .ok (.sipush 139, 3) := by decide +kernel
theorem dX8_image_33 : decode cX8_image 33 = .ok (.iload_n 1, 1) := by decide +kernel
theorem dX8_image_34 : decode cX8_image 34 = .ok (.imul, 1) := by decide +kernel
theorem dX8_image_35 : decode cX8_image 35 = .ok (.iload_n 2, 1) := by decide +kernel
theorem dX8_image_36 : decode cX8_image 36 = .ok (.iadd, 1) := by decide +kernel
theorem dX8_image_37 : decode cX8_image 37 = .ok (.aload_n 0, 1) := by decide +kernel
theorem dX8_image_38 : decode cX8_image 38 = .ok (.getfield 7, 3) := by decide +kernel
theorem dX8_image_41 : decode cX8_image 41 = .ok (.iload_n 2, 1) := by decide +kernel
theorem dX8_image_42 : decode cX8_image 42 = .ok (.laload, 1) := by decide +kernel
theorem dX8_image_43 : decode cX8_image 43 = .ok (.lastore, 1) := by decide +kernel
theorem dX8_image_44 : decode cX8_image 44 = .ok (.iinc 2 1, 3) := by decide +kernel
theorem dX8_image_47 : decode cX8_image 47 = .ok (.goto (-28), 3) := by decide +kernel
theorem dX8_image_50 : decode cX8_image 50 = .ok (.aload_n 0, 1) := by decide +kernel
theorem dX8_image_51 : decode cX8_image 51 = .ok (.getfield 16, 3) := by decide +kernel
theorem dX8_image_54 : decode cX8_image 54 = .ok (.iload_n 1, 1) := by decide +kernel
theorem dX8_image_55 : decode cX8_image 55 = .ok (.iconst 1, 1) := by decide +kernel
theorem dX8_image_56 : decode cX8_image 56 = .ok (.bastore, 1) := by decide +kernel
theorem dX8_image_57 : decode cX8_image 57 = .ok (.iconst 1, 1) := by decide +kernel
theorem dX8_image_58 : decode cX8_image 58 = .ok (.ireturn, 1) := by decide +kernel
theorem dX8_from_0 : decode cX8_from 0 = .ok (.iload_n 1, 1) := by decide +kernel
theorem dX8_from_1 : decode cX8_from 1 = .ok (.i2l, 1) := by decide +kernel
theorem dX8_from_2 : decode cX8_from 2 = .ok (.lconst 0, 1) := by decide +kernel
theorem dX8_from_3 : decode cX8_from 3 = .ok (.lconst 1, 1) := by decide +kernel
theorem dX8_from_4 : decode cX8_from 4 = .ok (.invokestatic 49, 3) := by decide +kernel
theorem dX8_from_7 : decode cX8_from 7 = .ok (.ifCond .ne 10, 3) := by decide +kernel
theorem dX8_from_10 : decode cX8_from 10 = .ok (.aload_n 0, 1) := by decide +kernel
theorem dX8_from_11 : decode cX8_from 11 = .ok (.bipush (-2), 2) := by decide +kernel
theorem dX8_from_13 : decode cX8_from 13 = .ok (.invokevirtual 65, 3) := by decide +kernel
theorem dX8_from_16 : decode cX8_from 16 = .ok (.ireturn, 1) := by decide +kernel
theorem dX8_from_17 : decode cX8_from 17 = .ok (.aload_n 0, 1) := by decide +kernel
theorem dX8_from_18 : decode cX8_from 18 = .ok (.getfield 16, 3) := by decide +kernel
theorem dX8_from_21 : decode cX8_from 21 = .ok (.iload_n 1, 1) := by decide +kernel
theorem dX8_from_22 : decode cX8_from 22 = .ok (.baload, 1) := by decide +kernel
theorem dX8_from_23 : decode cX8_from 23 = .ok (.ifCond .ne 16, 3) := by decide +kernel
theorem dX8_from_26 : decode cX8_from 26 = .ok (.aload_n 0, 1) := by decide +kernel
theorem dX8_from_27 : decode cX8_from 27 = .ok (.getfield 20, 3) := by decide +kernel
theorem dX8_from_30 : decode cX8_from 30 = .ok (.iconst 1, 1) := by decide +kernel
theorem dX8_from_31 : decode cX8_from 31 = .ok (.dup2, 1) := by decide +kernel
theorem dX8_from_32 : decode cX8_from 32 = .ok (.iaload, 1) := by decide +kernel
theorem dX8_from_33 : decode cX8_from 33 = .ok (.iconst 1, 1) := by decide +kernel
theorem dX8_from_34 : decode cX8_from 34 = .ok (.iadd, 1) := by decide +kernel
theorem dX8_from_35 : decode cX8_from 35 = .ok (.iastore, 1) := by decide +kernel
theorem dX8_from_36 : decode cX8_from 36 = .ok (.bipush (-3), 2) := by decide +kernel
theorem dX8_from_38 : decode cX8_from 38 = .ok (.ireturn, 1) := by decide +kernel
theorem dX8_from_39 : decode cX8_from 39 = .ok (.iconst 0, 1) := by decide +kernel
theorem dX8_from_40 : decode cX8_from 40 = .ok (.istore_n 2, 1) := by decide +kernel
theorem dX8_from_41 : decode cX8_from 41 = .ok (.iload_n 2, 1) := by decide +kernel
theorem dX8_from_42 : decode cX8_from 42 = .ok (.sipush 139, 3) := by decide +kernel
theorem dX8_from_45 : decode cX8_from 45 = .ok (.if_icmp .ge 27, 3) := by decide +kernel
theorem dX8_from_48 : decode cX8_from 48 = .ok (.aload_n 0, 1) := by decide +kernel
theorem dX8_from_49 : decode cX8_from 49 = .ok (.getfield 7, 3) := by decide +kernel
theorem dX8_from_52 : decode cX8_from 52 = .ok (.iload_n 2, 1) := by decide +kernel
theorem dX8_from_53 : decode cX8_from 53 = .ok (.aload_n 0, 1) := by decide +kernel
theorem dX8_from_54 : decode cX8_from 54 = .ok (.getfield 13, 3) := by decide +kernel
theorem dX8_from_57 : decode cX8_from 57 = .ok (.sipush 139, 3) := by decide +kernel
theorem dX8_from_60 : decode cX8_from 60 = .ok (.iload_n 1, 1) := by decide +kernel
theorem dX8_from_61 : decode cX8_from 61 = .ok (.imul, 1) := by decide +kernel
theorem dX8_from_62 : decode cX8_from 62 = .ok (.iload_n 2, 1) := by decide +kernel
theorem dX8_from_63 : decode cX8_from 63 = .ok (.iadd, 1) := by decide +kernel
theorem dX8_from_64 : decode cX8_from 64 = .ok (.laload, 1) := by decide +kernel
theorem dX8_from_65 : decode cX8_from 65 = .ok (.lastore, 1) := by decide +kernel
theorem dX8_from_66 : decode cX8_from 66 = .ok (.iinc 2 1, 3) := by decide +kernel
theorem dX8_from_69 : decode cX8_from 69 = .ok (.goto (-28), 3) := by decide +kernel
theorem dX8_from_72 : decode cX8_from 72 = .ok (.iconst 1, 1) := by decide +kernel
theorem dX8_from_73 : decode cX8_from 73 = .ok (.ireturn, 1) := by decide +kernel
theorem dX8_status_0 : decode cX8_status 0 = .ok (.iload_n 1, 1) := by decide +kernel
theorem dX8_status_1 : decode cX8_status 1 = .ok (.i2l, 1) := by decide +kernel
theorem dX8_status_2 : decode cX8_status 2 = .ok (.lconst 0, 1) := by decide +kernel
theorem dX8_status_3 : decode cX8_status 3 = .ok (.ldc2_w 41, 3) := by decide +kernel
theorem dX8_status_6 : decode cX8_status 6 = .ok (.invokestatic 49, 3) := by decide +kernel
theorem dX8_status_9 : decode cX8_status 9 = .ok (.ifCond .eq 12, 3) := by decide +kernel
theorem dX8_status_12 : decode cX8_status 12 = .ok (.aload_n 0, 1) := by decide +kernel
theorem dX8_status_13 : decode cX8_status 13 = .ok (.getfield 20, 3) := by decide +kernel
theorem dX8_status_16 : decode cX8_status 16 = .ok (.iload_n 1, 1) := by decide +kernel
theorem dX8_status_17 : decode cX8_status 17 = .ok (.iaload, 1) := by decide +kernel
theorem dX8_status_18 : decode cX8_status 18 = .ok (.goto 20, 3) := by decide +kernel
theorem dX8_status_21 : decode cX8_status 21 = .ok (.iload_n 1, 1) := by decide +kernel
theorem dX8_status_22 : decode cX8_status 22 = .ok (.iconst 3, 1) := by decide +kernel
theorem dX8_status_23 : decode cX8_status 23 = .ok (.if_icmp .ne 10, 3) := by decide +kernel
theorem dX8_status_26 : decode cX8_status 26 = .ok (.aload_n 0, 1) := by decide +kernel
theorem dX8_status_27 : decode cX8_status 27 = .ok (.invokevirtual 142, 3) := by decide +kernel
theorem dX8_status_30 : decode cX8_status 30 = .ok (.goto 8, 3) := by decide +kernel
theorem dX8_status_33 : decode cX8_status 33 = .ok (.aload_n 0, 1) := by decide +kernel
theorem dX8_status_34 : decode cX8_status 34 = .ok (.iconst (-1), 1) := by decide +kernel
theorem dX8_status_35 : decode cX8_status 35 = .ok (.invokevirtual 65, 3) := by decide +kernel
theorem dX8_status_38 : decode cX8_status 38 = .ok (.ireturn, 1) := by decide +kernel
theorem dX8_digest_0 : decode cX8_digest 0 = .ok (.ldc2_w 274, 3) := by decide +kernel
theorem dX8_digest_3 : decode cX8_digest 3 = .ok (.lstore_n 1, 1) := by decide +kernel
theorem dX8_digest_4 : decode cX8_digest 4 = .ok (.iconst 0, 1) := by decide +kernel
theorem dX8_digest_5 : decode cX8_digest 5 = .ok (.istore_n 3, 1) := by decide +kernel
theorem dX8_digest_6 : decode cX8_digest 6 = .ok (.iload_n 3, 1) := by decide +kernel
theorem dX8_digest_7 : decode cX8_digest 7 = .ok (.bipush 8, 2) := by decide +kernel
theorem dX8_digest_9 : decode cX8_digest 9 = .ok (.if_icmp .ge 21, 3) := by decide +kernel
theorem dX8_digest_12 : decode cX8_digest 12 = .ok (.ldc2_w 276, 3) := by decide +kernel
theorem dX8_digest_15 : decode cX8_digest 15 = .ok (.lload_n 1, 1) := by decide +kernel
theorem dX8_digest_16 : decode cX8_digest 16 = .ok (.lmul, 1) := by decide +kernel
theorem dX8_digest_17 : decode cX8_digest 17 = .ok (.aload_n 0, 1) := by decide +kernel
theorem dX8_digest_18 : decode cX8_digest 18 = .ok (.iload_n 3, 1) := by decide +kernel
theorem dX8_digest_19 : decode cX8_digest 19 = .ok (.invokevirtual 69, 3) := by decide +kernel
theorem dX8_digest_22 : decode cX8_digest 22 = .ok (.ladd, 1) := by decide +kernel
theorem dX8_digest_23 : decode cX8_digest 23 = .ok (.lstore_n 1, 1) := by decide +kernel
theorem dX8_digest_24 : decode cX8_digest 24 = .ok (.iinc 3 1, 3) := by decide +kernel
theorem dX8_digest_27 : decode cX8_digest 27 = .ok (.goto (-21), 3) := by decide +kernel
theorem dX8_digest_30 : decode cX8_digest 30 = .ok (.ldc2_w 276, 3) := by decide +kernel
theorem dX8_digest_33 : decode cX8_digest 33 = .ok (.lload_n 1, 1) := by decide +kernel
theorem dX8_digest_34 : decode cX8_digest 34 = .ok (.lmul, 1) := by decide +kernel
theorem dX8_digest_35 : decode cX8_digest 35 = .ok (.aload_n 0, 1) := by decide +kernel
theorem dX8_digest_36 : decode cX8_digest 36 = .ok (.invokevirtual 75, 3) := by decide +kernel
theorem dX8_digest_39 : decode cX8_digest 39 = .ok (.i2l, 1) := by decide +kernel
theorem dX8_digest_40 : decode cX8_digest 40 = .ok (.ladd, 1) := by decide +kernel
theorem dX8_digest_41 : decode cX8_digest 41 = .ok (.lstore_n 1, 1) := by decide +kernel
theorem dX8_digest_42 : decode cX8_digest 42 = .ok (.iconst 0, 1) := by decide +kernel
theorem dX8_digest_43 : decode cX8_digest 43 = .ok (.istore_n 3, 1) := by decide +kernel
theorem dX8_digest_44 : decode cX8_digest 44 = .ok (.iload_n 3, 1) := by decide +kernel
theorem dX8_digest_45 : decode cX8_digest 45 = .ok (.aload_n 0, 1) := by decide +kernel
theorem dX8_digest_46 : decode cX8_digest 46 = .ok (.invokevirtual 75, 3) := by decide +kernel
theorem dX8_digest_49 : decode cX8_digest 49 = .ok (.if_icmp .ge 22, 3) := by decide +kernel
theorem dX8_digest_52 : decode cX8_digest 52 = .ok (.ldc2_w 276, 3) := by decide +kernel
theorem dX8_digest_55 : decode cX8_digest 55 = .ok (.lload_n 1, 1) := by decide +kernel
theorem dX8_digest_56 : decode cX8_digest 56 = .ok (.lmul, 1) := by decide +kernel
theorem dX8_digest_57 : decode cX8_digest 57 = .ok (.aload_n 0, 1) := by decide +kernel
theorem dX8_digest_58 : decode cX8_digest 58 = .ok (.iload_n 3, 1) := by decide +kernel
theorem dX8_digest_59 : decode cX8_digest 59 = .ok (.invokevirtual 83, 3) := by decide +kernel
theorem dX8_digest_62 : decode cX8_digest 62 = .ok (.i2l, 1) := by decide +kernel
theorem dX8_digest_63 : decode cX8_digest 63 = .ok (.ladd, 1) := by decide +kernel
theorem dX8_digest_64 : decode cX8_digest 64 = .ok (.lstore_n 1, 1) := by decide +kernel
theorem dX8_digest_65 : decode cX8_digest 65 = .ok (.iinc 3 1, 3) := by decide +kernel
theorem dX8_digest_68 : decode cX8_digest 68 = .ok (.goto (-24), 3) := by decide +kernel
theorem dX8_digest_71 : decode cX8_digest 71 = .ok (.iconst 0, 1) := by decide +kernel
theorem dX8_digest_72 : decode cX8_digest 72 = .ok (.istore_n 3, 1) := by decide +kernel
theorem dX8_digest_73 : decode cX8_digest 73 = .ok (.iload_n 3, 1) := by decide +kernel
theorem dX8_digest_74 : decode cX8_digest 74 = .ok (.iconst 2, 1) := by decide +kernel
theorem dX8_digest_75 : decode cX8_digest 75 = .ok (.aload_n 0, 1) := by decide +kernel
theorem dX8_digest_76 : decode cX8_digest 76 = .ok (.invokevirtual 142, 3) := by decide +kernel
theorem dX8_digest_79 : decode cX8_digest 79 = .ok (.imul, 1) := by decide +kernel
theorem dX8_digest_80 : decode cX8_digest 80 = .ok (.if_icmp .ge 25, 3) := by decide +kernel
theorem dX8_digest_83 : decode cX8_digest 83 = .ok (.ldc2_w 276, 3) := by decide +kernel
theorem dX8_digest_86 : decode cX8_digest 86 = .ok (.lload_n 1, 1) := by decide +kernel
theorem dX8_digest_87 : decode cX8_digest 87 = .ok (.lmul, 1) := by decide +kernel
theorem dX8_digest_88 : decode cX8_digest 88 = .ok (.aload_n 0, 1) := by decide +kernel
theorem dX8_digest_89 : decode cX8_digest 89 = .ok (.getfield 7, 3) := by decide +kernel
theorem dX8_digest_92 : decode cX8_digest 92 = .ok (.bipush 123, 2) := by decide +kernel
theorem dX8_digest_94 : decode cX8_digest 94 = .ok (.iload_n 3, 1) := by decide +kernel
theorem dX8_digest_95 : decode cX8_digest 95 = .ok (.iadd, 1) := by decide +kernel
theorem dX8_digest_96 : decode cX8_digest 96 = .ok (.laload, 1) := by decide +kernel
theorem dX8_digest_97 : decode cX8_digest 97 = .ok (.ladd, 1) := by decide +kernel
theorem dX8_digest_98 : decode cX8_digest 98 = .ok (.lstore_n 1, 1) := by decide +kernel
theorem dX8_digest_99 : decode cX8_digest 99 = .ok (.iinc 3 1, 3) := by decide +kernel
theorem dX8_digest_102 : decode cX8_digest 102 = .ok (.goto (-29), 3) := by decide +kernel
theorem dX8_digest_105 : decode cX8_digest 105 = .ok (.iconst 0, 1) := by decide +kernel
theorem dX8_digest_106 : decode cX8_digest 106 = .ok (.istore_n 3, 1) := by decide +kernel
theorem dX8_digest_107 : decode cX8_digest 107 = .ok (.iload_n 3, 1) := by decide +kernel
theorem dX8_digest_108 : decode cX8_digest 108 = .ok (.bipush 12, 2) := by decide +kernel
theorem dX8_digest_110 : decode cX8_digest 110 = .ok (.if_icmp .ge 24, 3) := by decide +kernel
theorem dX8_digest_113 : decode cX8_digest 113 = .ok (.ldc2_w 276, 3) := by decide +kernel
theorem dX8_digest_116 : decode cX8_digest 116 = .ok (.lload_n 1, 1) := by decide +kernel
theorem dX8_digest_117 : decode cX8_digest 117 = .ok (.lmul, 1) := by decide +kernel
theorem dX8_digest_118 : decode cX8_digest 118 = .ok (.aload_n 0, 1) := by decide +kernel
theorem dX8_digest_119 : decode cX8_digest 119 = .ok (.getfield 7, 3) := by decide +kernel
theorem dX8_digest_122 : decode cX8_digest 122 = .ok (.iload_n 3, 1) := by decide +kernel
theorem dX8_digest_123 : decode cX8_digest 123 = .ok (.laload, 1) := by decide +kernel
theorem dX8_digest_124 : decode cX8_digest 124 = .ok (.l2i, 1) := by decide +kernel
theorem dX8_digest_125 : decode cX8_digest 125 = .ok (.i2l, 1) := by decide +kernel
theorem dX8_digest_126 : decode cX8_digest 126 = .ok (.ladd, 1) := by decide +kernel
theorem dX8_digest_127 : decode cX8_digest 127 = .ok (.lstore_n 1, 1) := by decide +kernel
theorem dX8_digest_128 : decode cX8_digest 128 = .ok (.iinc 3 1, 3) := by decide +kernel
theorem dX8_digest_131 : decode cX8_digest 131 = .ok (.goto (-24), 3) := by decide +kernel
theorem dX8_digest_134 : decode cX8_digest 134 = .ok (.iconst 0, 1) := by decide +kernel
theorem dX8_digest_135 : decode cX8_digest 135 = .ok (.istore_n 3, 1) := by decide +kernel
theorem dX8_digest_136 : decode cX8_digest 136 = .ok (.iload_n 3, 1) := by decide +kernel
theorem dX8_digest_137 : decode cX8_digest 137 = .ok (.bipush 40, 2) := by decide +kernel
theorem dX8_digest_139 : decode cX8_digest 139 = .ok (.if_icmp .ge 22, 3) := by decide +kernel
theorem dX8_digest_142 : decode cX8_digest 142 = .ok (.ldc2_w 276, 3) := by decide +kernel
theorem dX8_digest_145 : decode cX8_digest 145 = .ok (.lload_n 1, 1) := by decide +kernel
theorem dX8_digest_146 : decode cX8_digest 146 = .ok (.lmul, 1) := by decide +kernel
theorem dX8_digest_147 : decode cX8_digest 147 = .ok (.aload_n 0, 1) := by decide +kernel
theorem dX8_digest_148 : decode cX8_digest 148 = .ok (.iload_n 3, 1) := by decide +kernel
theorem dX8_digest_149 : decode cX8_digest 149 = .ok (.invokevirtual 212, 3) := by decide +kernel
theorem dX8_digest_152 : decode cX8_digest 152 = .ok (.i2l, 1) := by decide +kernel
theorem dX8_digest_153 : decode cX8_digest 153 = .ok (.ladd, 1) := by decide +kernel
theorem dX8_digest_154 : decode cX8_digest 154 = .ok (.lstore_n 1, 1) := by decide +kernel
theorem dX8_digest_155 : decode cX8_digest 155 = .ok (.iinc 3 1, 3) := by decide +kernel
theorem dX8_digest_158 : decode cX8_digest 158 = .ok (.goto (-22), 3) := by decide +kernel
theorem dX8_digest_161 : decode cX8_digest 161 = .ok (.lload_n 1, 1) := by decide +kernel
theorem dX8_digest_162 : decode cX8_digest 162 = .ok (.lreturn, 1) := by decide +kernel
theorem dJ9_floorMod_7cf53_0 : decode cJ9_floorMod_7cf53 0 = .ok (.iload_n 0, 1) := by decide +kernel
theorem dJ9_floorMod_7cf53_1 : decode cJ9_floorMod_7cf53 1 = .ok (.iload_n 1, 1) := by decide +kernel
theorem dJ9_floorMod_7cf53_2 : decode cJ9_floorMod_7cf53 2 = .ok (.irem, 1) := by decide +kernel
theorem dJ9_floorMod_7cf53_3 : decode cJ9_floorMod_7cf53 3 = .ok (.istore_n 2, 1) := by decide +kernel
theorem dJ9_floorMod_7cf53_4 : decode cJ9_floorMod_7cf53 4 = .ok (.iload_n 0, 1) := by decide +kernel
theorem dJ9_floorMod_7cf53_5 : decode cJ9_floorMod_7cf53 5 = .ok (.iload_n 1, 1) := by decide +kernel
theorem dJ9_floorMod_7cf53_6 : decode cJ9_floorMod_7cf53 6 = .ok (.ixor, 1) := by decide +kernel
theorem dJ9_floorMod_7cf53_7 : decode cJ9_floorMod_7cf53 7 = .ok (.ifCond .ge 11, 3) := by decide +kernel
theorem dJ9_floorMod_7cf53_10 : decode cJ9_floorMod_7cf53 10 = .ok (.iload_n 2, 1) := by decide +kernel
theorem dJ9_floorMod_7cf53_11 : decode cJ9_floorMod_7cf53 11 = .ok (.ifCond .eq 7, 3) := by decide +kernel
theorem dJ9_floorMod_7cf53_14 : decode cJ9_floorMod_7cf53 14 = .ok (.iload_n 2, 1) := by decide +kernel
theorem dJ9_floorMod_7cf53_15 : decode cJ9_floorMod_7cf53 15 = .ok (.iload_n 1, 1) := by decide +kernel
theorem dJ9_floorMod_7cf53_16 : decode cJ9_floorMod_7cf53 16 = .ok (.iadd, 1) := by decide +kernel
theorem dJ9_floorMod_7cf53_17 : decode cJ9_floorMod_7cf53 17 = .ok (.ireturn, 1) := by decide +kernel
theorem dJ9_floorMod_7cf53_18 : decode cJ9_floorMod_7cf53 18 = .ok (.iload_n 2, 1) := by decide +kernel
theorem dJ9_floorMod_7cf53_19 : decode cJ9_floorMod_7cf53 19 = .ok (.ireturn, 1) := by decide +kernel
theorem dJ9_abs_0f7a4_0 : decode cJ9_abs_0f7a4 0 = .ok (.iload_n 0, 1) := by decide +kernel
theorem dJ9_abs_0f7a4_1 : decode cJ9_abs_0f7a4 1 = .ok (.ifCond .ge 8, 3) := by decide +kernel
theorem dJ9_abs_0f7a4_4 : decode cJ9_abs_0f7a4 4 = .ok (.iload_n 0, 1) := by decide +kernel
theorem dJ9_abs_0f7a4_5 : decode cJ9_abs_0f7a4 5 = .ok (.ineg, 1) := by decide +kernel
theorem dJ9_abs_0f7a4_6 : decode cJ9_abs_0f7a4 6 = .ok (.goto 4, 3) := by decide +kernel
theorem dJ9_abs_0f7a4_9 : decode cJ9_abs_0f7a4 9 = .ok (.iload_n 0, 1) := by decide +kernel
theorem dJ9_abs_0f7a4_10 : decode cJ9_abs_0f7a4 10 = .ok (.ireturn, 1) := by decide +kernel
theorem dJ9_abs_067f4_0 : decode cJ9_abs_067f4 0 = .ok (.lload_n 0, 1) := by decide +kernel
theorem dJ9_abs_067f4_1 : decode cJ9_abs_067f4 1 = .ok (.lconst 0, 1) := by decide +kernel
theorem dJ9_abs_067f4_2 : decode cJ9_abs_067f4 2 = .ok (.lcmp, 1) := by decide +kernel
theorem dJ9_abs_067f4_3 : decode cJ9_abs_067f4 3 = .ok (.ifCond .ge 8, 3) := by decide +kernel
theorem dJ9_abs_067f4_6 : decode cJ9_abs_067f4 6 = .ok (.lload_n 0, 1) := by decide +kernel
theorem dJ9_abs_067f4_7 : decode cJ9_abs_067f4 7 = .ok (.lneg, 1) := by decide +kernel
theorem dJ9_abs_067f4_8 : decode cJ9_abs_067f4 8 = .ok (.goto 4, 3) := by decide +kernel
theorem dJ9_abs_067f4_11 : decode cJ9_abs_067f4 11 = .ok (.lload_n 0, 1) := by decide +kernel
theorem dJ9_abs_067f4_12 : decode cJ9_abs_067f4 12 = .ok (.lreturn, 1) := by decide +kernel
theorem dJ9_max_7cf53_0 : decode cJ9_max_7cf53 0 = .ok (.iload_n 0, 1) := by decide +kernel
theorem dJ9_max_7cf53_1 : decode cJ9_max_7cf53 1 = .ok (.iload_n 1, 1) := by decide +kernel
theorem dJ9_max_7cf53_2 : decode cJ9_max_7cf53 2 = .ok (.if_icmp .lt 7, 3) := by decide +kernel
theorem dJ9_max_7cf53_5 : decode cJ9_max_7cf53 5 = .ok (.iload_n 0, 1) := by decide +kernel
theorem dJ9_max_7cf53_6 : decode cJ9_max_7cf53 6 = .ok (.goto 4, 3) := by decide +kernel
theorem dJ9_max_7cf53_9 : decode cJ9_max_7cf53 9 = .ok (.iload_n 1, 1) := by decide +kernel
theorem dJ9_max_7cf53_10 : decode cJ9_max_7cf53 10 = .ok (.ireturn, 1) := by decide +kernel
theorem dJ9_max_f86c9_0 : decode cJ9_max_f86c9 0 = .ok (.lload_n 0, 1) := by decide +kernel
theorem dJ9_max_f86c9_1 : decode cJ9_max_f86c9 1 = .ok (.lload_n 2, 1) := by decide +kernel
theorem dJ9_max_f86c9_2 : decode cJ9_max_f86c9 2 = .ok (.lcmp, 1) := by decide +kernel
theorem dJ9_max_f86c9_3 : decode cJ9_max_f86c9 3 = .ok (.ifCond .lt 7, 3) := by decide +kernel
theorem dJ9_max_f86c9_6 : decode cJ9_max_f86c9 6 = .ok (.lload_n 0, 1) := by decide +kernel
theorem dJ9_max_f86c9_7 : decode cJ9_max_f86c9 7 = .ok (.goto 4, 3) := by decide +kernel
theorem dJ9_max_f86c9_10 : decode cJ9_max_f86c9 10 = .ok (.lload_n 2, 1) := by decide +kernel
theorem dJ9_max_f86c9_11 : decode cJ9_max_f86c9 11 = .ok (.lreturn, 1) := by decide +kernel
theorem dJ9_min_7cf53_0 : decode cJ9_min_7cf53 0 = .ok (.iload_n 0, 1) := by decide +kernel
theorem dJ9_min_7cf53_1 : decode cJ9_min_7cf53 1 = .ok (.iload_n 1, 1) := by decide +kernel
theorem dJ9_min_7cf53_2 : decode cJ9_min_7cf53 2 = .ok (.if_icmp .gt 7, 3) := by decide +kernel
theorem dJ9_min_7cf53_5 : decode cJ9_min_7cf53 5 = .ok (.iload_n 0, 1) := by decide +kernel
theorem dJ9_min_7cf53_6 : decode cJ9_min_7cf53 6 = .ok (.goto 4, 3) := by decide +kernel
theorem dJ9_min_7cf53_9 : decode cJ9_min_7cf53 9 = .ok (.iload_n 1, 1) := by decide +kernel
theorem dJ9_min_7cf53_10 : decode cJ9_min_7cf53 10 = .ok (.ireturn, 1) := by decide +kernel
theorem dJ9_min_f86c9_0 : decode cJ9_min_f86c9 0 = .ok (.lload_n 0, 1) := by decide +kernel
theorem dJ9_min_f86c9_1 : decode cJ9_min_f86c9 1 = .ok (.lload_n 2, 1) := by decide +kernel
theorem dJ9_min_f86c9_2 : decode cJ9_min_f86c9 2 = .ok (.lcmp, 1) := by decide +kernel
theorem dJ9_min_f86c9_3 : decode cJ9_min_f86c9 3 = .ok (.ifCond .gt 7, 3) := by decide +kernel
theorem dJ9_min_f86c9_6 : decode cJ9_min_f86c9 6 = .ok (.lload_n 0, 1) := by decide +kernel
theorem dJ9_min_f86c9_7 : decode cJ9_min_f86c9 7 = .ok (.goto 4, 3) := by decide +kernel
theorem dJ9_min_f86c9_10 : decode cJ9_min_f86c9 10 = .ok (.lload_n 2, 1) := by decide +kernel
theorem dJ9_min_f86c9_11 : decode cJ9_min_f86c9 11 = .ok (.lreturn, 1) := by decide +kernel
theorem dL_law_0 : decode cL_law 0 = .ok (.new 7, 3) := by decide +kernel
theorem dL_law_3 : decode cL_law 3 = .ok (.dup, 1) := by decide +kernel
theorem dL_law_4 : decode cL_law 4 = .ok (.invokespecial 9, 3) := by decide +kernel
theorem dL_law_7 : decode cL_law 7 = .ok (.astore_n 1, 1) := by decide +kernel
theorem dL_law_8 : decode cL_law 8 = .ok (.new 10, 3) := by decide +kernel
theorem dL_law_11 : decode cL_law 11 = .ok (.dup, 1) := by decide +kernel
theorem dL_law_12 : decode cL_law 12 = .ok (.invokespecial 12, 3) := by decide +kernel
theorem dL_law_15 : decode cL_law 15 = .ok (.astore_n 2, 1) := by decide +kernel
theorem dL_law_16 : decode cL_law 16 = .ok (.iconst 0, 1) := by decide +kernel
theorem dL_law_17 : decode cL_law 17 = .ok (.istore_n 3, 1) := by decide +kernel
theorem dL_law_18 : decode cL_law 18 = .ok (.iload_n 3, 1) := by decide +kernel
theorem dL_law_19 : decode cL_law 19 = .ok (.aload_n 0, 1) := by decide +kernel
theorem dL_law_20 : decode cL_law 20 = .ok (.arraylength, 1) := by decide +kernel
theorem dL_law_21 : decode cL_law 21 = .ok (.iconst 5, 1) := by decide +kernel
theorem dL_law_22 : decode cL_law 22 = .ok (.isub, 1) := by decide +kernel
theorem dL_law_23 : decode cL_law 23 = .ok (.if_icmp .gt 720, 3) := by decide +kernel
theorem dL_law_26 : decode cL_law 26 = .ok (.aload_n 0, 1) := by decide +kernel
theorem dL_law_27 : decode cL_law 27 = .ok (.iload_n 3, 1) := by decide +kernel
theorem dL_law_28 : decode cL_law 28 = .ok (.iaload, 1) := by decide +kernel
theorem dL_law_29 : decode cL_law 29 = .ok (.bipush 31, 2) := by decide +kernel
theorem dL_law_31 : decode cL_law 31 = .ok (.iand, 1) := by decide +kernel
theorem dL_law_32 : decode cL_law 32 = .ok (.tableswitch 705 0 23 #[112, 145, 168, 181, 194, 227, 240, 263, 286, 309, 332, 355, 378, 421, 434, 467, 520, 543, 566, 599, 622, 645, 668, 691], 112) := by decide +kernel
theorem dL_law_144 : decode cL_law 144 = .ok (.aload_n 1, 1) := by decide +kernel
theorem dL_law_145 : decode cL_law 145 = .ok (.aload_n 0, 1) := by decide +kernel
theorem dL_law_146 : decode cL_law 146 = .ok (.iload_n 3, 1) := by decide +kernel
theorem dL_law_147 : decode cL_law 147 = .ok (.iconst 1, 1) := by decide +kernel
theorem dL_law_148 : decode cL_law 148 = .ok (.iadd, 1) := by decide +kernel
theorem dL_law_149 : decode cL_law 149 = .ok (.iaload, 1) := by decide +kernel
theorem dL_law_150 : decode cL_law 150 = .ok (.aload_n 0, 1) := by decide +kernel
theorem dL_law_151 : decode cL_law 151 = .ok (.iload_n 3, 1) := by decide +kernel
theorem dL_law_152 : decode cL_law 152 = .ok (.iconst 2, 1) := by decide +kernel
theorem dL_law_153 : decode cL_law 153 = .ok (.iadd, 1) := by decide +kernel
theorem dL_law_154 : decode cL_law 154 = .ok (.iaload, 1) := by decide +kernel
theorem dL_law_155 : decode cL_law 155 = .ok (.invokevirtual 13, 3) := by decide +kernel
theorem dL_law_158 : decode cL_law 158 = .ok (.aload_n 2, 1) := by decide +kernel
theorem dL_law_159 : decode cL_law 159 = .ok (.aload_n 0, 1) := by decide +kernel
theorem dL_law_160 : decode cL_law 160 = .ok (.iload_n 3, 1) := by decide +kernel
theorem dL_law_161 : decode cL_law 161 = .ok (.iconst 1, 1) := by decide +kernel
theorem dL_law_162 : decode cL_law 162 = .ok (.iadd, 1) := by decide +kernel
theorem dL_law_163 : decode cL_law 163 = .ok (.iaload, 1) := by decide +kernel
theorem dL_law_164 : decode cL_law 164 = .ok (.aload_n 0, 1) := by decide +kernel
theorem dL_law_165 : decode cL_law 165 = .ok (.iload_n 3, 1) := by decide +kernel
theorem dL_law_166 : decode cL_law 166 = .ok (.iconst 2, 1) := by decide +kernel
theorem dL_law_167 : decode cL_law 167 = .ok (.iadd, 1) := by decide +kernel
theorem dL_law_168 : decode cL_law 168 = .ok (.iaload, 1) := by decide +kernel
theorem dL_law_169 : decode cL_law 169 = .ok (.invokevirtual 17, 3) := by decide +kernel
theorem dL_law_172 : decode cL_law 172 = .ok (.if_icmp .eq 565, 3) := by decide +kernel
theorem dL_law_175 : decode cL_law 175 = .ok (.iconst 0, 1) := by decide +kernel
theorem dL_law_176 : decode cL_law 176 = .ok (.ireturn, 1) := by decide +kernel
theorem dL_law_177 : decode cL_law 177 = .ok (.aload_n 1, 1) := by decide +kernel
theorem dL_law_178 : decode cL_law 178 = .ok (.aload_n 0, 1) := by decide +kernel
theorem dL_law_179 : decode cL_law 179 = .ok (.iload_n 3, 1) := by decide +kernel
theorem dL_law_180 : decode cL_law 180 = .ok (.iconst 1, 1) := by decide +kernel
theorem dL_law_181 : decode cL_law 181 = .ok (.iadd, 1) := by decide +kernel
theorem dL_law_182 : decode cL_law 182 = .ok (.iaload, 1) := by decide +kernel
theorem dL_law_183 : decode cL_law 183 = .ok (.invokevirtual 18, 3) := by decide +kernel
theorem dL_law_186 : decode cL_law 186 = .ok (.aload_n 2, 1) := by decide +kernel
theorem dL_law_187 : decode cL_law 187 = .ok (.aload_n 0, 1) := by decide +kernel
theorem dL_law_188 : decode cL_law 188 = .ok (.iload_n 3, 1) := by decide +kernel
theorem dL_law_189 : decode cL_law 189 = .ok (.iconst 1, 1) := by decide +kernel
theorem dL_law_190 : decode cL_law 190 = .ok (.iadd, 1) := by decide +kernel
theorem dL_law_191 : decode cL_law 191 = .ok (.iaload, 1) := by decide +kernel
theorem dL_law_192 : decode cL_law 192 = .ok (.invokevirtual 22, 3) := by decide +kernel
theorem dL_law_195 : decode cL_law 195 = .ok (.if_icmp .eq 542, 3) := by decide +kernel
theorem dL_law_198 : decode cL_law 198 = .ok (.iconst 0, 1) := by decide +kernel
theorem dL_law_199 : decode cL_law 199 = .ok (.ireturn, 1) := by decide +kernel
theorem dL_law_200 : decode cL_law 200 = .ok (.aload_n 1, 1) := by decide +kernel
theorem dL_law_201 : decode cL_law 201 = .ok (.invokevirtual 23, 3) := by decide +kernel
theorem dL_law_204 : decode cL_law 204 = .ok (.aload_n 2, 1) := by decide +kernel
theorem dL_law_205 : decode cL_law 205 = .ok (.invokevirtual 27, 3) := by decide +kernel
theorem dL_law_208 : decode cL_law 208 = .ok (.if_icmp .eq 529, 3) := by decide +kernel
theorem dL_law_211 : decode cL_law 211 = .ok (.iconst 0, 1) := by decide +kernel
theorem dL_law_212 : decode cL_law 212 = .ok (.ireturn, 1) := by decide +kernel
theorem dL_law_213 : decode cL_law 213 = .ok (.aload_n 1, 1) := by decide +kernel
theorem dL_law_214 : decode cL_law 214 = .ok (.invokevirtual 28, 3) := by decide +kernel
theorem dL_law_217 : decode cL_law 217 = .ok (.aload_n 2, 1) := by decide +kernel
theorem dL_law_218 : decode cL_law 218 = .ok (.invokevirtual 31, 3) := by decide +kernel
theorem dL_law_221 : decode cL_law 221 = .ok (.if_icmp .eq 516, 3) := by decide +kernel
theorem dL_law_224 : decode cL_law 224 = .ok (.iconst 0, 1) := by decide +kernel
theorem dL_law_225 : decode cL_law 225 = .ok (.ireturn, 1) := by decide +kernel
theorem dL_law_226 : decode cL_law 226 = .ok (.aload_n 1, 1) := by decide +kernel
theorem dL_law_227 : decode cL_law 227 = .ok (.aload_n 0, 1) := by decide +kernel
theorem dL_law_228 : decode cL_law 228 = .ok (.iload_n 3, 1) := by decide +kernel
theorem dL_law_229 : decode cL_law 229 = .ok (.iconst 1, 1) := by decide +kernel
theorem dL_law_230 : decode cL_law 230 = .ok (.iadd, 1) := by decide +kernel
theorem dL_law_231 : decode cL_law 231 = .ok (.iaload, 1) := by decide +kernel
theorem dL_law_232 : decode cL_law 232 = .ok (.aload_n 0, 1) := by decide +kernel
theorem dL_law_233 : decode cL_law 233 = .ok (.iload_n 3, 1) := by decide +kernel
theorem dL_law_234 : decode cL_law 234 = .ok (.iconst 2, 1) := by decide +kernel
theorem dL_law_235 : decode cL_law 235 = .ok (.iadd, 1) := by decide +kernel
theorem dL_law_236 : decode cL_law 236 = .ok (.iaload, 1) := by decide +kernel
theorem dL_law_237 : decode cL_law 237 = .ok (.invokevirtual 32, 3) := by decide +kernel
theorem dL_law_240 : decode cL_law 240 = .ok (.aload_n 2, 1) := by decide +kernel
theorem dL_law_241 : decode cL_law 241 = .ok (.aload_n 0, 1) := by decide +kernel
theorem dL_law_242 : decode cL_law 242 = .ok (.iload_n 3, 1) := by decide +kernel
theorem dL_law_243 : decode cL_law 243 = .ok (.iconst 1, 1) := by decide +kernel
theorem dL_law_244 : decode cL_law 244 = .ok (.iadd, 1) := by decide +kernel
theorem dL_law_245 : decode cL_law 245 = .ok (.iaload, 1) := by decide +kernel
theorem dL_law_246 : decode cL_law 246 = .ok (.aload_n 0, 1) := by decide +kernel
theorem dL_law_247 : decode cL_law 247 = .ok (.iload_n 3, 1) := by decide +kernel
theorem dL_law_248 : decode cL_law 248 = .ok (.iconst 2, 1) := by decide +kernel
theorem dL_law_249 : decode cL_law 249 = .ok (.iadd, 1) := by decide +kernel
theorem dL_law_250 : decode cL_law 250 = .ok (.iaload, 1) := by decide +kernel
theorem dL_law_251 : decode cL_law 251 = .ok (.invokevirtual 35, 3) := by decide +kernel
theorem dL_law_254 : decode cL_law 254 = .ok (.if_icmp .eq 483, 3) := by decide +kernel
theorem dL_law_257 : decode cL_law 257 = .ok (.iconst 0, 1) := by decide +kernel
theorem dL_law_258 : decode cL_law 258 = .ok (.ireturn, 1) := by decide +kernel
theorem dL_law_259 : decode cL_law 259 = .ok (.aload_n 1, 1) := by decide +kernel
theorem dL_law_260 : decode cL_law 260 = .ok (.invokevirtual 36, 3) := by decide +kernel
theorem dL_law_263 : decode cL_law 263 = .ok (.aload_n 2, 1) := by decide +kernel
theorem dL_law_264 : decode cL_law 264 = .ok (.invokevirtual 39, 3) := by decide +kernel
theorem dL_law_267 : decode cL_law 267 = .ok (.if_icmp .eq 470, 3) := by decide +kernel
theorem dL_law_270 : decode cL_law 270 = .ok (.iconst 0, 1) := by decide +kernel
theorem dL_law_271 : decode cL_law 271 = .ok (.ireturn, 1) := by decide +kernel
theorem dL_law_272 : decode cL_law 272 = .ok (.aload_n 1, 1) := by decide +kernel
theorem dL_law_273 : decode cL_law 273 = .ok (.aload_n 0, 1) := by decide +kernel
theorem dL_law_274 : decode cL_law 274 = .ok (.iload_n 3, 1) := by decide +kernel
theorem dL_law_275 : decode cL_law 275 = .ok (.iconst 1, 1) := by decide +kernel
theorem dL_law_276 : decode cL_law 276 = .ok (.iadd, 1) := by decide +kernel
theorem dL_law_277 : decode cL_law 277 = .ok (.iaload, 1) := by decide +kernel
theorem dL_law_278 : decode cL_law 278 = .ok (.invokevirtual 40, 3) := by decide +kernel
theorem dL_law_281 : decode cL_law 281 = .ok (.aload_n 2, 1) := by decide +kernel
theorem dL_law_282 : decode cL_law 282 = .ok (.aload_n 0, 1) := by decide +kernel
theorem dL_law_283 : decode cL_law 283 = .ok (.iload_n 3, 1) := by decide +kernel
theorem dL_law_284 : decode cL_law 284 = .ok (.iconst 1, 1) := by decide +kernel
theorem dL_law_285 : decode cL_law 285 = .ok (.iadd, 1) := by decide +kernel
theorem dL_law_286 : decode cL_law 286 = .ok (.iaload, 1) := by decide +kernel
theorem dL_law_287 : decode cL_law 287 = .ok (.invokevirtual 43, 3) := by decide +kernel
theorem dL_law_290 : decode cL_law 290 = .ok (.if_icmp .eq 447, 3) := by decide +kernel
theorem dL_law_293 : decode cL_law 293 = .ok (.iconst 0, 1) := by decide +kernel
theorem dL_law_294 : decode cL_law 294 = .ok (.ireturn, 1) := by decide +kernel
theorem dL_law_295 : decode cL_law 295 = .ok (.aload_n 1, 1) := by decide +kernel
theorem dL_law_296 : decode cL_law 296 = .ok (.aload_n 0, 1) := by decide +kernel
theorem dL_law_297 : decode cL_law 297 = .ok (.iload_n 3, 1) := by decide +kernel
theorem dL_law_298 : decode cL_law 298 = .ok (.iconst 1, 1) := by decide +kernel
theorem dL_law_299 : decode cL_law 299 = .ok (.iadd, 1) := by decide +kernel
theorem dL_law_300 : decode cL_law 300 = .ok (.iaload, 1) := by decide +kernel
theorem dL_law_301 : decode cL_law 301 = .ok (.invokevirtual 44, 3) := by decide +kernel
theorem dL_law_304 : decode cL_law 304 = .ok (.aload_n 2, 1) := by decide +kernel
theorem dL_law_305 : decode cL_law 305 = .ok (.aload_n 0, 1) := by decide +kernel
theorem dL_law_306 : decode cL_law 306 = .ok (.iload_n 3, 1) := by decide +kernel
theorem dL_law_307 : decode cL_law 307 = .ok (.iconst 1, 1) := by decide +kernel
theorem dL_law_308 : decode cL_law 308 = .ok (.iadd, 1) := by decide +kernel
theorem dL_law_309 : decode cL_law 309 = .ok (.iaload, 1) := by decide +kernel
theorem dL_law_310 : decode cL_law 310 = .ok (.invokevirtual 47, 3) := by decide +kernel
theorem dL_law_313 : decode cL_law 313 = .ok (.if_icmp .eq 424, 3) := by decide +kernel
theorem dL_law_316 : decode cL_law 316 = .ok (.iconst 0, 1) := by decide +kernel
theorem dL_law_317 : decode cL_law 317 = .ok (.ireturn, 1) := by decide +kernel
theorem dL_law_318 : decode cL_law 318 = .ok (.aload_n 1, 1) := by decide +kernel
theorem dL_law_319 : decode cL_law 319 = .ok (.aload_n 0, 1) := by decide +kernel
theorem dL_law_320 : decode cL_law 320 = .ok (.iload_n 3, 1) := by decide +kernel
theorem dL_law_321 : decode cL_law 321 = .ok (.iconst 1, 1) := by decide +kernel
theorem dL_law_322 : decode cL_law 322 = .ok (.iadd, 1) := by decide +kernel
theorem dL_law_323 : decode cL_law 323 = .ok (.iaload, 1) := by decide +kernel
theorem dL_law_324 : decode cL_law 324 = .ok (.invokevirtual 48, 3) := by decide +kernel
theorem dL_law_327 : decode cL_law 327 = .ok (.aload_n 2, 1) := by decide +kernel
theorem dL_law_328 : decode cL_law 328 = .ok (.aload_n 0, 1) := by decide +kernel
theorem dL_law_329 : decode cL_law 329 = .ok (.iload_n 3, 1) := by decide +kernel
theorem dL_law_330 : decode cL_law 330 = .ok (.iconst 1, 1) := by decide +kernel
theorem dL_law_331 : decode cL_law 331 = .ok (.iadd, 1) := by decide +kernel
theorem dL_law_332 : decode cL_law 332 = .ok (.iaload, 1) := by decide +kernel
theorem dL_law_333 : decode cL_law 333 = .ok (.invokevirtual 51, 3) := by decide +kernel
theorem dL_law_336 : decode cL_law 336 = .ok (.if_icmp .eq 401, 3) := by decide +kernel
theorem dL_law_339 : decode cL_law 339 = .ok (.iconst 0, 1) := by decide +kernel
theorem dL_law_340 : decode cL_law 340 = .ok (.ireturn, 1) := by decide +kernel
theorem dL_law_341 : decode cL_law 341 = .ok (.aload_n 1, 1) := by decide +kernel
theorem dL_law_342 : decode cL_law 342 = .ok (.aload_n 0, 1) := by decide +kernel
theorem dL_law_343 : decode cL_law 343 = .ok (.iload_n 3, 1) := by decide +kernel
theorem dL_law_344 : decode cL_law 344 = .ok (.iconst 1, 1) := by decide +kernel
theorem dL_law_345 : decode cL_law 345 = .ok (.iadd, 1) := by decide +kernel
theorem dL_law_346 : decode cL_law 346 = .ok (.iaload, 1) := by decide +kernel
theorem dL_law_347 : decode cL_law 347 = .ok (.invokevirtual 52, 3) := by decide +kernel
theorem dL_law_350 : decode cL_law 350 = .ok (.aload_n 2, 1) := by decide +kernel
theorem dL_law_351 : decode cL_law 351 = .ok (.aload_n 0, 1) := by decide +kernel
theorem dL_law_352 : decode cL_law 352 = .ok (.iload_n 3, 1) := by decide +kernel
theorem dL_law_353 : decode cL_law 353 = .ok (.iconst 1, 1) := by decide +kernel
theorem dL_law_354 : decode cL_law 354 = .ok (.iadd, 1) := by decide +kernel
theorem dL_law_355 : decode cL_law 355 = .ok (.iaload, 1) := by decide +kernel
theorem dL_law_356 : decode cL_law 356 = .ok (.invokevirtual 55, 3) := by decide +kernel
theorem dL_law_359 : decode cL_law 359 = .ok (.if_icmp .eq 378, 3) := by decide +kernel
theorem dL_law_362 : decode cL_law 362 = .ok (.iconst 0, 1) := by decide +kernel
theorem dL_law_363 : decode cL_law 363 = .ok (.ireturn, 1) := by decide +kernel
theorem dL_law_364 : decode cL_law 364 = .ok (.aload_n 1, 1) := by decide +kernel
theorem dL_law_365 : decode cL_law 365 = .ok (.aload_n 0, 1) := by decide +kernel
theorem dL_law_366 : decode cL_law 366 = .ok (.iload_n 3, 1) := by decide +kernel
theorem dL_law_367 : decode cL_law 367 = .ok (.iconst 1, 1) := by decide +kernel
theorem dL_law_368 : decode cL_law 368 = .ok (.iadd, 1) := by decide +kernel
theorem dL_law_369 : decode cL_law 369 = .ok (.iaload, 1) := by decide +kernel
theorem dL_law_370 : decode cL_law 370 = .ok (.invokevirtual 56, 3) := by decide +kernel
theorem dL_law_373 : decode cL_law 373 = .ok (.aload_n 2, 1) := by decide +kernel
theorem dL_law_374 : decode cL_law 374 = .ok (.aload_n 0, 1) := by decide +kernel
theorem dL_law_375 : decode cL_law 375 = .ok (.iload_n 3, 1) := by decide +kernel
theorem dL_law_376 : decode cL_law 376 = .ok (.iconst 1, 1) := by decide +kernel
theorem dL_law_377 : decode cL_law 377 = .ok (.iadd, 1) := by decide +kernel
theorem dL_law_378 : decode cL_law 378 = .ok (.iaload, 1) := by decide +kernel
theorem dL_law_379 : decode cL_law 379 = .ok (.invokevirtual 59, 3) := by decide +kernel
theorem dL_law_382 : decode cL_law 382 = .ok (.if_icmp .eq 355, 3) := by decide +kernel
theorem dL_law_385 : decode cL_law 385 = .ok (.iconst 0, 1) := by decide +kernel
theorem dL_law_386 : decode cL_law 386 = .ok (.ireturn, 1) := by decide +kernel
theorem dL_law_387 : decode cL_law 387 = .ok (.aload_n 1, 1) := by decide +kernel
theorem dL_law_388 : decode cL_law 388 = .ok (.aload_n 0, 1) := by decide +kernel
theorem dL_law_389 : decode cL_law 389 = .ok (.iload_n 3, 1) := by decide +kernel
theorem dL_law_390 : decode cL_law 390 = .ok (.iconst 1, 1) := by decide +kernel
theorem dL_law_391 : decode cL_law 391 = .ok (.iadd, 1) := by decide +kernel
theorem dL_law_392 : decode cL_law 392 = .ok (.iaload, 1) := by decide +kernel
theorem dL_law_393 : decode cL_law 393 = .ok (.invokevirtual 60, 3) := by decide +kernel
theorem dL_law_396 : decode cL_law 396 = .ok (.aload_n 2, 1) := by decide +kernel
theorem dL_law_397 : decode cL_law 397 = .ok (.aload_n 0, 1) := by decide +kernel
theorem dL_law_398 : decode cL_law 398 = .ok (.iload_n 3, 1) := by decide +kernel
theorem dL_law_399 : decode cL_law 399 = .ok (.iconst 1, 1) := by decide +kernel
theorem dL_law_400 : decode cL_law 400 = .ok (.iadd, 1) := by decide +kernel
theorem dL_law_401 : decode cL_law 401 = .ok (.iaload, 1) := by decide +kernel
theorem dL_law_402 : decode cL_law 402 = .ok (.invokevirtual 63, 3) := by decide +kernel
theorem dL_law_405 : decode cL_law 405 = .ok (.if_icmp .eq 332, 3) := by decide +kernel
theorem dL_law_408 : decode cL_law 408 = .ok (.iconst 0, 1) := by decide +kernel
theorem dL_law_409 : decode cL_law 409 = .ok (.ireturn, 1) := by decide +kernel
theorem dL_law_410 : decode cL_law 410 = .ok (.aload_n 1, 1) := by decide +kernel
theorem dL_law_411 : decode cL_law 411 = .ok (.aload_n 0, 1) := by decide +kernel
theorem dL_law_412 : decode cL_law 412 = .ok (.iload_n 3, 1) := by decide +kernel
theorem dL_law_413 : decode cL_law 413 = .ok (.iconst 1, 1) := by decide +kernel
theorem dL_law_414 : decode cL_law 414 = .ok (.iadd, 1) := by decide +kernel
theorem dL_law_415 : decode cL_law 415 = .ok (.iaload, 1) := by decide +kernel
theorem dL_law_416 : decode cL_law 416 = .ok (.aload_n 0, 1) := by decide +kernel
theorem dL_law_417 : decode cL_law 417 = .ok (.iload_n 3, 1) := by decide +kernel
theorem dL_law_418 : decode cL_law 418 = .ok (.iconst 2, 1) := by decide +kernel
theorem dL_law_419 : decode cL_law 419 = .ok (.iadd, 1) := by decide +kernel
theorem dL_law_420 : decode cL_law 420 = .ok (.iaload, 1) := by decide +kernel
theorem dL_law_421 : decode cL_law 421 = .ok (.aload_n 0, 1) := by decide +kernel
theorem dL_law_422 : decode cL_law 422 = .ok (.iload_n 3, 1) := by decide +kernel
theorem dL_law_423 : decode cL_law 423 = .ok (.iconst 3, 1) := by decide +kernel
theorem dL_law_424 : decode cL_law 424 = .ok (.iadd, 1) := by decide +kernel
theorem dL_law_425 : decode cL_law 425 = .ok (.iaload, 1) := by decide +kernel
theorem dL_law_426 : decode cL_law 426 = .ok (.invokevirtual 64, 3) := by decide +kernel
theorem dL_law_429 : decode cL_law 429 = .ok (.aload_n 2, 1) := by decide +kernel
theorem dL_law_430 : decode cL_law 430 = .ok (.aload_n 0, 1) := by decide +kernel
theorem dL_law_431 : decode cL_law 431 = .ok (.iload_n 3, 1) := by decide +kernel
theorem dL_law_432 : decode cL_law 432 = .ok (.iconst 1, 1) := by decide +kernel
theorem dL_law_433 : decode cL_law 433 = .ok (.iadd, 1) := by decide +kernel
theorem dL_law_434 : decode cL_law 434 = .ok (.iaload, 1) := by decide +kernel
theorem dL_law_435 : decode cL_law 435 = .ok (.aload_n 0, 1) := by decide +kernel
theorem dL_law_436 : decode cL_law 436 = .ok (.iload_n 3, 1) := by decide +kernel
theorem dL_law_437 : decode cL_law 437 = .ok (.iconst 2, 1) := by decide +kernel
theorem dL_law_438 : decode cL_law 438 = .ok (.iadd, 1) := by decide +kernel
theorem dL_law_439 : decode cL_law 439 = .ok (.iaload, 1) := by decide +kernel
theorem dL_law_440 : decode cL_law 440 = .ok (.aload_n 0, 1) := by decide +kernel
theorem dL_law_441 : decode cL_law 441 = .ok (.iload_n 3, 1) := by decide +kernel
theorem dL_law_442 : decode cL_law 442 = .ok (.iconst 3, 1) := by decide +kernel
theorem dL_law_443 : decode cL_law 443 = .ok (.iadd, 1) := by decide +kernel
theorem dL_law_444 : decode cL_law 444 = .ok (.iaload, 1) := by decide +kernel
theorem dL_law_445 : decode cL_law 445 = .ok (.invokevirtual 68, 3) := by decide +kernel
theorem dL_law_448 : decode cL_law 448 = .ok (.if_icmp .eq 289, 3) := by decide +kernel
theorem dL_law_451 : decode cL_law 451 = .ok (.iconst 0, 1) := by decide +kernel
theorem dL_law_452 : decode cL_law 452 = .ok (.ireturn, 1) := by decide +kernel
theorem dL_law_453 : decode cL_law 453 = .ok (.aload_n 1, 1) := by decide +kernel
theorem dL_law_454 : decode cL_law 454 = .ok (.invokevirtual 69, 3) := by decide +kernel
theorem dL_law_457 : decode cL_law 457 = .ok (.aload_n 2, 1) := by decide +kernel
theorem dL_law_458 : decode cL_law 458 = .ok (.invokevirtual 72, 3) := by decide +kernel
theorem dL_law_461 : decode cL_law 461 = .ok (.if_icmp .eq 276, 3) := by decide +kernel
theorem dL_law_464 : decode cL_law 464 = .ok (.iconst 0, 1) := by decide +kernel
theorem dL_law_465 : decode cL_law 465 = .ok (.ireturn, 1) := by decide +kernel
theorem dL_law_466 : decode cL_law 466 = .ok (.aload_n 1, 1) := by decide +kernel
theorem dL_law_467 : decode cL_law 467 = .ok (.aload_n 0, 1) := by decide +kernel
theorem dL_law_468 : decode cL_law 468 = .ok (.iload_n 3, 1) := by decide +kernel
theorem dL_law_469 : decode cL_law 469 = .ok (.iconst 1, 1) := by decide +kernel
theorem dL_law_470 : decode cL_law 470 = .ok (.iadd, 1) := by decide +kernel
theorem dL_law_471 : decode cL_law 471 = .ok (.iaload, 1) := by decide +kernel
theorem dL_law_472 : decode cL_law 472 = .ok (.aload_n 0, 1) := by decide +kernel
theorem dL_law_473 : decode cL_law 473 = .ok (.iload_n 3, 1) := by decide +kernel
theorem dL_law_474 : decode cL_law 474 = .ok (.iconst 2, 1) := by decide +kernel
theorem dL_law_475 : decode cL_law 475 = .ok (.iadd, 1) := by decide +kernel
theorem dL_law_476 : decode cL_law 476 = .ok (.iaload, 1) := by decide +kernel
theorem dL_law_477 : decode cL_law 477 = .ok (.invokevirtual 73, 3) := by decide +kernel
theorem dL_law_480 : decode cL_law 480 = .ok (.aload_n 2, 1) := by decide +kernel
theorem dL_law_481 : decode cL_law 481 = .ok (.aload_n 0, 1) := by decide +kernel
theorem dL_law_482 : decode cL_law 482 = .ok (.iload_n 3, 1) := by decide +kernel
theorem dL_law_483 : decode cL_law 483 = .ok (.iconst 1, 1) := by decide +kernel
theorem dL_law_484 : decode cL_law 484 = .ok (.iadd, 1) := by decide +kernel
theorem dL_law_485 : decode cL_law 485 = .ok (.iaload, 1) := by decide +kernel
theorem dL_law_486 : decode cL_law 486 = .ok (.aload_n 0, 1) := by decide +kernel
theorem dL_law_487 : decode cL_law 487 = .ok (.iload_n 3, 1) := by decide +kernel
theorem dL_law_488 : decode cL_law 488 = .ok (.iconst 2, 1) := by decide +kernel
theorem dL_law_489 : decode cL_law 489 = .ok (.iadd, 1) := by decide +kernel
theorem dL_law_490 : decode cL_law 490 = .ok (.iaload, 1) := by decide +kernel
theorem dL_law_491 : decode cL_law 491 = .ok (.invokevirtual 76, 3) := by decide +kernel
theorem dL_law_494 : decode cL_law 494 = .ok (.if_icmp .eq 243, 3) := by decide +kernel
theorem dL_law_497 : decode cL_law 497 = .ok (.iconst 0, 1) := by decide +kernel
theorem dL_law_498 : decode cL_law 498 = .ok (.ireturn, 1) := by decide +kernel
theorem dL_law_499 : decode cL_law 499 = .ok (.aload_n 1, 1) := by decide +kernel
theorem dL_law_500 : decode cL_law 500 = .ok (.aload_n 0, 1) := by decide +kernel
theorem dL_law_501 : decode cL_law 501 = .ok (.iload_n 3, 1) := by decide +kernel
theorem dL_law_502 : decode cL_law 502 = .ok (.iconst 1, 1) := by decide +kernel
theorem dL_law_503 : decode cL_law 503 = .ok (.iadd, 1) := by decide +kernel
theorem dL_law_504 : decode cL_law 504 = .ok (.iaload, 1) := by decide +kernel
theorem dL_law_505 : decode cL_law 505 = .ok (.aload_n 0, 1) := by decide +kernel
theorem dL_law_506 : decode cL_law 506 = .ok (.iload_n 3, 1) := by decide +kernel
theorem dL_law_507 : decode cL_law 507 = .ok (.iconst 2, 1) := by decide +kernel
theorem dL_law_508 : decode cL_law 508 = .ok (.iadd, 1) := by decide +kernel
theorem dL_law_509 : decode cL_law 509 = .ok (.iaload, 1) := by decide +kernel
theorem dL_law_510 : decode cL_law 510 = .ok (.aload_n 0, 1) := by decide +kernel
theorem dL_law_511 : decode cL_law 511 = .ok (.iload_n 3, 1) := by decide +kernel
theorem dL_law_512 : decode cL_law 512 = .ok (.iconst 3, 1) := by decide +kernel
theorem dL_law_513 : decode cL_law 513 = .ok (.iadd, 1) := by decide +kernel
theorem dL_law_514 : decode cL_law 514 = .ok (.iaload, 1) := by decide +kernel
theorem dL_law_515 : decode cL_law 515 = .ok (.aload_n 0, 1) := by decide +kernel
theorem dL_law_516 : decode cL_law 516 = .ok (.iload_n 3, 1) := by decide +kernel
theorem dL_law_517 : decode cL_law 517 = .ok (.iconst 4, 1) := by decide +kernel
theorem dL_law_518 : decode cL_law 518 = .ok (.iadd, 1) := by decide +kernel
theorem dL_law_519 : decode cL_law 519 = .ok (.iaload, 1) := by decide +kernel
theorem dL_law_520 : decode cL_law 520 = .ok (.invokevirtual 77, 3) := by decide +kernel
theorem dL_law_523 : decode cL_law 523 = .ok (.aload_n 2, 1) := by decide +kernel
theorem dL_law_524 : decode cL_law 524 = .ok (.aload_n 0, 1) := by decide +kernel
theorem dL_law_525 : decode cL_law 525 = .ok (.iload_n 3, 1) := by decide +kernel
theorem dL_law_526 : decode cL_law 526 = .ok (.iconst 1, 1) := by decide +kernel
theorem dL_law_527 : decode cL_law 527 = .ok (.iadd, 1) := by decide +kernel
theorem dL_law_528 : decode cL_law 528 = .ok (.iaload, 1) := by decide +kernel
theorem dL_law_529 : decode cL_law 529 = .ok (.aload_n 0, 1) := by decide +kernel
theorem dL_law_530 : decode cL_law 530 = .ok (.iload_n 3, 1) := by decide +kernel
theorem dL_law_531 : decode cL_law 531 = .ok (.iconst 2, 1) := by decide +kernel
theorem dL_law_532 : decode cL_law 532 = .ok (.iadd, 1) := by decide +kernel
theorem dL_law_533 : decode cL_law 533 = .ok (.iaload, 1) := by decide +kernel
theorem dL_law_534 : decode cL_law 534 = .ok (.aload_n 0, 1) := by decide +kernel
theorem dL_law_535 : decode cL_law 535 = .ok (.iload_n 3, 1) := by decide +kernel
theorem dL_law_536 : decode cL_law 536 = .ok (.iconst 3, 1) := by decide +kernel
theorem dL_law_537 : decode cL_law 537 = .ok (.iadd, 1) := by decide +kernel
theorem dL_law_538 : decode cL_law 538 = .ok (.iaload, 1) := by decide +kernel
theorem dL_law_539 : decode cL_law 539 = .ok (.aload_n 0, 1) := by decide +kernel
theorem dL_law_540 : decode cL_law 540 = .ok (.iload_n 3, 1) := by decide +kernel
theorem dL_law_541 : decode cL_law 541 = .ok (.iconst 4, 1) := by decide +kernel
theorem dL_law_542 : decode cL_law 542 = .ok (.iadd, 1) := by decide +kernel
theorem dL_law_543 : decode cL_law 543 = .ok (.iaload, 1) := by decide +kernel
theorem dL_law_544 : decode cL_law 544 = .ok (.invokevirtual 81, 3) := by decide +kernel
theorem dL_law_547 : decode cL_law 547 = .ok (.if_icmp .eq 190, 3) := by decide +kernel
theorem dL_law_550 : decode cL_law 550 = .ok (.iconst 0, 1) := by decide +kernel
theorem dL_law_551 : decode cL_law 551 = .ok (.ireturn, 1) := by decide +kernel
theorem dL_law_552 : decode cL_law 552 = .ok (.aload_n 1, 1) := by decide +kernel
theorem dL_law_553 : decode cL_law 553 = .ok (.aload_n 0, 1) := by decide +kernel
theorem dL_law_554 : decode cL_law 554 = .ok (.iload_n 3, 1) := by decide +kernel
theorem dL_law_555 : decode cL_law 555 = .ok (.iconst 1, 1) := by decide +kernel
theorem dL_law_556 : decode cL_law 556 = .ok (.iadd, 1) := by decide +kernel
theorem dL_law_557 : decode cL_law 557 = .ok (.iaload, 1) := by decide +kernel
theorem dL_law_558 : decode cL_law 558 = .ok (.invokevirtual 82, 3) := by decide +kernel
theorem dL_law_561 : decode cL_law 561 = .ok (.aload_n 2, 1) := by decide +kernel
theorem dL_law_562 : decode cL_law 562 = .ok (.aload_n 0, 1) := by decide +kernel
theorem dL_law_563 : decode cL_law 563 = .ok (.iload_n 3, 1) := by decide +kernel
theorem dL_law_564 : decode cL_law 564 = .ok (.iconst 1, 1) := by decide +kernel
theorem dL_law_565 : decode cL_law 565 = .ok (.iadd, 1) := by decide +kernel
theorem dL_law_566 : decode cL_law 566 = .ok (.iaload, 1) := by decide +kernel
theorem dL_law_567 : decode cL_law 567 = .ok (.invokevirtual 85, 3) := by decide +kernel
theorem dL_law_570 : decode cL_law 570 = .ok (.if_icmp .eq 167, 3) := by decide +kernel
theorem dL_law_573 : decode cL_law 573 = .ok (.iconst 0, 1) := by decide +kernel
theorem dL_law_574 : decode cL_law 574 = .ok (.ireturn, 1) := by decide +kernel
theorem dL_law_575 : decode cL_law 575 = .ok (.aload_n 1, 1) := by decide +kernel
theorem dL_law_576 : decode cL_law 576 = .ok (.aload_n 0, 1) := by decide +kernel
theorem dL_law_577 : decode cL_law 577 = .ok (.iload_n 3, 1) := by decide +kernel
theorem dL_law_578 : decode cL_law 578 = .ok (.iconst 1, 1) := by decide +kernel
theorem dL_law_579 : decode cL_law 579 = .ok (.iadd, 1) := by decide +kernel
theorem dL_law_580 : decode cL_law 580 = .ok (.iaload, 1) := by decide +kernel
theorem dL_law_581 : decode cL_law 581 = .ok (.invokevirtual 86, 3) := by decide +kernel
theorem dL_law_584 : decode cL_law 584 = .ok (.aload_n 2, 1) := by decide +kernel
theorem dL_law_585 : decode cL_law 585 = .ok (.aload_n 0, 1) := by decide +kernel
theorem dL_law_586 : decode cL_law 586 = .ok (.iload_n 3, 1) := by decide +kernel
theorem dL_law_587 : decode cL_law 587 = .ok (.iconst 1, 1) := by decide +kernel
theorem dL_law_588 : decode cL_law 588 = .ok (.iadd, 1) := by decide +kernel
theorem dL_law_589 : decode cL_law 589 = .ok (.iaload, 1) := by decide +kernel
theorem dL_law_590 : decode cL_law 590 = .ok (.invokevirtual 89, 3) := by decide +kernel
theorem dL_law_593 : decode cL_law 593 = .ok (.if_icmp .eq 144, 3) := by decide +kernel
theorem dL_law_596 : decode cL_law 596 = .ok (.iconst 0, 1) := by decide +kernel
theorem dL_law_597 : decode cL_law 597 = .ok (.ireturn, 1) := by decide +kernel
theorem dL_law_598 : decode cL_law 598 = .ok (.aload_n 1, 1) := by decide +kernel
theorem dL_law_599 : decode cL_law 599 = .ok (.aload_n 0, 1) := by decide +kernel
theorem dL_law_600 : decode cL_law 600 = .ok (.iload_n 3, 1) := by decide +kernel
theorem dL_law_601 : decode cL_law 601 = .ok (.iconst 1, 1) := by decide +kernel
theorem dL_law_602 : decode cL_law 602 = .ok (.iadd, 1) := by decide +kernel
theorem dL_law_603 : decode cL_law 603 = .ok (.iaload, 1) := by decide +kernel
theorem dL_law_604 : decode cL_law 604 = .ok (.aload_n 0, 1) := by decide +kernel
theorem dL_law_605 : decode cL_law 605 = .ok (.iload_n 3, 1) := by decide +kernel
theorem dL_law_606 : decode cL_law 606 = .ok (.iconst 2, 1) := by decide +kernel
theorem dL_law_607 : decode cL_law 607 = .ok (.iadd, 1) := by decide +kernel
theorem dL_law_608 : decode cL_law 608 = .ok (.iaload, 1) := by decide +kernel
theorem dL_law_609 : decode cL_law 609 = .ok (.invokevirtual 90, 3) := by decide +kernel
theorem dL_law_612 : decode cL_law 612 = .ok (.aload_n 2, 1) := by decide +kernel
theorem dL_law_613 : decode cL_law 613 = .ok (.aload_n 0, 1) := by decide +kernel
theorem dL_law_614 : decode cL_law 614 = .ok (.iload_n 3, 1) := by decide +kernel
theorem dL_law_615 : decode cL_law 615 = .ok (.iconst 1, 1) := by decide +kernel
theorem dL_law_616 : decode cL_law 616 = .ok (.iadd, 1) := by decide +kernel
theorem dL_law_617 : decode cL_law 617 = .ok (.iaload, 1) := by decide +kernel
theorem dL_law_618 : decode cL_law 618 = .ok (.aload_n 0, 1) := by decide +kernel
theorem dL_law_619 : decode cL_law 619 = .ok (.iload_n 3, 1) := by decide +kernel
theorem dL_law_620 : decode cL_law 620 = .ok (.iconst 2, 1) := by decide +kernel
theorem dL_law_621 : decode cL_law 621 = .ok (.iadd, 1) := by decide +kernel
theorem dL_law_622 : decode cL_law 622 = .ok (.iaload, 1) := by decide +kernel
theorem dL_law_623 : decode cL_law 623 = .ok (.invokevirtual 93, 3) := by decide +kernel
theorem dL_law_626 : decode cL_law 626 = .ok (.if_icmp .eq 111, 3) := by decide +kernel
theorem dL_law_629 : decode cL_law 629 = .ok (.iconst 0, 1) := by decide +kernel
theorem dL_law_630 : decode cL_law 630 = .ok (.ireturn, 1) := by decide +kernel
theorem dL_law_631 : decode cL_law 631 = .ok (.aload_n 1, 1) := by decide +kernel
theorem dL_law_632 : decode cL_law 632 = .ok (.aload_n 0, 1) := by decide +kernel
theorem dL_law_633 : decode cL_law 633 = .ok (.iload_n 3, 1) := by decide +kernel
theorem dL_law_634 : decode cL_law 634 = .ok (.iconst 1, 1) := by decide +kernel
theorem dL_law_635 : decode cL_law 635 = .ok (.iadd, 1) := by decide +kernel
theorem dL_law_636 : decode cL_law 636 = .ok (.iaload, 1) := by decide +kernel
theorem dL_law_637 : decode cL_law 637 = .ok (.invokevirtual 94, 3) := by decide +kernel
theorem dL_law_640 : decode cL_law 640 = .ok (.aload_n 2, 1) := by decide +kernel
theorem dL_law_641 : decode cL_law 641 = .ok (.aload_n 0, 1) := by decide +kernel
theorem dL_law_642 : decode cL_law 642 = .ok (.iload_n 3, 1) := by decide +kernel
theorem dL_law_643 : decode cL_law 643 = .ok (.iconst 1, 1) := by decide +kernel
theorem dL_law_644 : decode cL_law 644 = .ok (.iadd, 1) := by decide +kernel
theorem dL_law_645 : decode cL_law 645 = .ok (.iaload, 1) := by decide +kernel
theorem dL_law_646 : decode cL_law 646 = .ok (.invokevirtual 97, 3) := by decide +kernel
theorem dL_law_649 : decode cL_law 649 = .ok (.if_icmp .eq 88, 3) := by decide +kernel
theorem dL_law_652 : decode cL_law 652 = .ok (.iconst 0, 1) := by decide +kernel
theorem dL_law_653 : decode cL_law 653 = .ok (.ireturn, 1) := by decide +kernel
theorem dL_law_654 : decode cL_law 654 = .ok (.aload_n 1, 1) := by decide +kernel
theorem dL_law_655 : decode cL_law 655 = .ok (.aload_n 0, 1) := by decide +kernel
theorem dL_law_656 : decode cL_law 656 = .ok (.iload_n 3, 1) := by decide +kernel
theorem dL_law_657 : decode cL_law 657 = .ok (.iconst 1, 1) := by decide +kernel
theorem dL_law_658 : decode cL_law 658 = .ok (.iadd, 1) := by decide +kernel
theorem dL_law_659 : decode cL_law 659 = .ok (.iaload, 1) := by decide +kernel
theorem dL_law_660 : decode cL_law 660 = .ok (.invokevirtual 98, 3) := by decide +kernel
theorem dL_law_663 : decode cL_law 663 = .ok (.aload_n 2, 1) := by decide +kernel
theorem dL_law_664 : decode cL_law 664 = .ok (.aload_n 0, 1) := by decide +kernel
theorem dL_law_665 : decode cL_law 665 = .ok (.iload_n 3, 1) := by decide +kernel
theorem dL_law_666 : decode cL_law 666 = .ok (.iconst 1, 1) := by decide +kernel
theorem dL_law_667 : decode cL_law 667 = .ok (.iadd, 1) := by decide +kernel
theorem dL_law_668 : decode cL_law 668 = .ok (.iaload, 1) := by decide +kernel
theorem dL_law_669 : decode cL_law 669 = .ok (.invokevirtual 101, 3) := by decide +kernel
theorem dL_law_672 : decode cL_law 672 = .ok (.if_icmp .eq 65, 3) := by decide +kernel
theorem dL_law_675 : decode cL_law 675 = .ok (.iconst 0, 1) := by decide +kernel
theorem dL_law_676 : decode cL_law 676 = .ok (.ireturn, 1) := by decide +kernel
theorem dL_law_677 : decode cL_law 677 = .ok (.aload_n 1, 1) := by decide +kernel
theorem dL_law_678 : decode cL_law 678 = .ok (.aload_n 0, 1) := by decide +kernel
theorem dL_law_679 : decode cL_law 679 = .ok (.iload_n 3, 1) := by decide +kernel
theorem dL_law_680 : decode cL_law 680 = .ok (.iconst 1, 1) := by decide +kernel
theorem dL_law_681 : decode cL_law 681 = .ok (.iadd, 1) := by decide +kernel
theorem dL_law_682 : decode cL_law 682 = .ok (.iaload, 1) := by decide +kernel
theorem dL_law_683 : decode cL_law 683 = .ok (.invokevirtual 102, 3) := by decide +kernel
theorem dL_law_686 : decode cL_law 686 = .ok (.aload_n 2, 1) := by decide +kernel
theorem dL_law_687 : decode cL_law 687 = .ok (.aload_n 0, 1) := by decide +kernel
theorem dL_law_688 : decode cL_law 688 = .ok (.iload_n 3, 1) := by decide +kernel
theorem dL_law_689 : decode cL_law 689 = .ok (.iconst 1, 1) := by decide +kernel
theorem dL_law_690 : decode cL_law 690 = .ok (.iadd, 1) := by decide +kernel
theorem dL_law_691 : decode cL_law 691 = .ok (.iaload, 1) := by decide +kernel
theorem dL_law_692 : decode cL_law 692 = .ok (.invokevirtual 105, 3) := by decide +kernel
theorem dL_law_695 : decode cL_law 695 = .ok (.if_icmp .eq 42, 3) := by decide +kernel
theorem dL_law_698 : decode cL_law 698 = .ok (.iconst 0, 1) := by decide +kernel
theorem dL_law_699 : decode cL_law 699 = .ok (.ireturn, 1) := by decide +kernel
theorem dL_law_700 : decode cL_law 700 = .ok (.aload_n 1, 1) := by decide +kernel
theorem dL_law_701 : decode cL_law 701 = .ok (.aload_n 0, 1) := by decide +kernel
theorem dL_law_702 : decode cL_law 702 = .ok (.iload_n 3, 1) := by decide +kernel
theorem dL_law_703 : decode cL_law 703 = .ok (.iconst 1, 1) := by decide +kernel
theorem dL_law_704 : decode cL_law 704 = .ok (.iadd, 1) := by decide +kernel
theorem dL_law_705 : decode cL_law 705 = .ok (.iaload, 1) := by decide +kernel
theorem dL_law_706 : decode cL_law 706 = .ok (.invokevirtual 106, 3) := by decide +kernel
theorem dL_law_709 : decode cL_law 709 = .ok (.aload_n 2, 1) := by decide +kernel
theorem dL_law_710 : decode cL_law 710 = .ok (.aload_n 0, 1) := by decide +kernel
theorem dL_law_711 : decode cL_law 711 = .ok (.iload_n 3, 1) := by decide +kernel
theorem dL_law_712 : decode cL_law 712 = .ok (.iconst 1, 1) := by decide +kernel
theorem dL_law_713 : decode cL_law 713 = .ok (.iadd, 1) := by decide +kernel
theorem dL_law_714 : decode cL_law 714 = .ok (.iaload, 1) := by decide +kernel
theorem dL_law_715 : decode cL_law 715 = .ok (.invokevirtual 109, 3) := by decide +kernel
theorem dL_law_718 : decode cL_law 718 = .ok (.if_icmp .eq 19, 3) := by decide +kernel
theorem dL_law_721 : decode cL_law 721 = .ok (.iconst 0, 1) := by decide +kernel
theorem dL_law_722 : decode cL_law 722 = .ok (.ireturn, 1) := by decide +kernel
theorem dL_law_723 : decode cL_law 723 = .ok (.aload_n 1, 1) := by decide +kernel
theorem dL_law_724 : decode cL_law 724 = .ok (.invokevirtual 110, 3) := by decide +kernel
theorem dL_law_727 : decode cL_law 727 = .ok (.aload_n 2, 1) := by decide +kernel
theorem dL_law_728 : decode cL_law 728 = .ok (.invokevirtual 114, 3) := by decide +kernel
theorem dL_law_731 : decode cL_law 731 = .ok (.lcmp, 1) := by decide +kernel
theorem dL_law_732 : decode cL_law 732 = .ok (.ifCond .eq 5, 3) := by decide +kernel
theorem dL_law_735 : decode cL_law 735 = .ok (.iconst 0, 1) := by decide +kernel
theorem dL_law_736 : decode cL_law 736 = .ok (.ireturn, 1) := by decide +kernel
theorem dL_law_737 : decode cL_law 737 = .ok (.iinc 3 5, 3) := by decide +kernel
theorem dL_law_740 : decode cL_law 740 = .ok (.goto (-722), 3) := by decide +kernel
theorem dL_law_743 : decode cL_law 743 = .ok (.iconst 1, 1) := by decide +kernel
theorem dL_law_744 : decode cL_law 744 = .ok (.ireturn, 1) := by decide +kernel
