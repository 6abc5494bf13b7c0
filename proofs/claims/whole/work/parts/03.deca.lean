theorem dX0_init_0 : decode cX0_init 0 = .ok (.aload_n 0, 1) := by decide +kernel
theorem dX0_init_1 : decode cX0_init 1 = .ok (.invokespecial 3, 3) := by decide +kernel
theorem dX0_init_4 : decode cX0_init 4 = .ok (.aload_n 0, 1) := by decide +kernel
theorem dX0_init_5 : decode cX0_init 5 = .ok (.lconst 0, 1) := by decide +kernel
theorem dX0_init_6 : decode cX0_init 6 = .ok (.putfield 9, 3) := by decide +kernel
theorem dX0_init_9 : decode cX0_init 9 = .ok (.aload_n 0, 1) := by decide +kernel
theorem dX0_init_10 : decode cX0_init 10 = .ok (.lconst 0, 1) := by decide +kernel
theorem dX0_init_11 : decode cX0_init 11 = .ok (.putfield 15, 3) := by decide +kernel
theorem dX0_init_14 : decode cX0_init 14 = .ok (.aload_n 0, 1) := by decide +kernel
theorem dX0_init_15 : decode cX0_init 15 = .ok (.iconst 0, 1) := by decide +kernel
theorem dX0_init_16 : decode cX0_init 16 = .ok (.putfield 18, 3) := by decide +kernel
theorem dX0_init_19 : decode cX0_init 19 = .ok (.aload_n 0, 1) := by decide +kernel
theorem dX0_init_20 : decode cX0_init 20 = .ok (.iconst 0, 1) := by decide +kernel
theorem dX0_init_21 : decode cX0_init 21 = .ok (.putfield 22, 3) := by decide +kernel
theorem dX0_init_24 : decode cX0_init 24 = .ok (.aload_n 0, 1) := by decide +kernel
theorem dX0_init_25 : decode cX0_init 25 = .ok (.iconst 0, 1) := by decide +kernel
theorem dX0_init_26 : decode cX0_init 26 = .ok (.putfield 25, 3) := by decide +kernel
theorem dX0_init_29 : decode cX0_init 29 = .ok (.aload_n 0, 1) := by decide +kernel
theorem dX0_init_30 : decode cX0_init 30 = .ok (.iconst 0, 1) := by decide +kernel
theorem dX0_init_31 : decode cX0_init 31 = .ok (.putfield 28, 3) := by decide +kernel
theorem dX0_init_34 : decode cX0_init 34 = .ok (.aload_n 0, 1) := by decide +kernel
theorem dX0_init_35 : decode cX0_init 35 = .ok (.iconst 0, 1) := by decide +kernel
theorem dX0_init_36 : decode cX0_init 36 = .ok (.putfield 31, 3) := by decide +kernel
theorem dX0_init_39 : decode cX0_init 39 = .ok (.aload_n 0, 1) := by decide +kernel
theorem dX0_init_40 : decode cX0_init 40 = .ok (.iconst 0, 1) := by decide +kernel
theorem dX0_init_41 : decode cX0_init 41 = .ok (.putfield 34, 3) := by decide +kernel
theorem dX0_init_44 : decode cX0_init 44 = .ok (.aload_n 0, 1) := by decide +kernel
theorem dX0_init_45 : decode cX0_init 45 = .ok (.iconst 0, 1) := by decide +kernel
theorem dX0_init_46 : decode cX0_init 46 = .ok (.putfield 37, 3) := by decide +kernel
theorem dX0_init_49 : decode cX0_init 49 = .ok (.aload_n 0, 1) := by decide +kernel
theorem dX0_init_50 : decode cX0_init 50 = .ok (.iconst 0, 1) := by decide +kernel
theorem dX0_init_51 : decode cX0_init 51 = .ok (.putfield 40, 3) := by decide +kernel
theorem dX0_init_54 : decode cX0_init 54 = .ok (.aload_n 0, 1) := by decide +kernel
theorem dX0_init_55 : decode cX0_init 55 = .ok (.lconst 0, 1) := by decide +kernel
theorem dX0_init_56 : decode cX0_init 56 = .ok (.putfield 43, 3) := by decide +kernel
theorem dX0_init_59 : decode cX0_init 59 = .ok (.aload_n 0, 1) := by decide +kernel
theorem dX0_init_60 : decode cX0_init 60 = .ok (.lconst 0, 1) := by decide +kernel
theorem dX0_init_61 : decode cX0_init 61 = .ok (.putfield 46, 3) := by decide +kernel
theorem dX0_init_64 : decode cX0_init 64 = .ok (.return_, 1) := by decide +kernel
theorem dX0_become_0 : decode cX0_become 0 = .ok (.aload_n 0, 1) := by decide +kernel
theorem dX0_become_1 : decode cX0_become 1 = .ok (.aload_n 1, 1) := by decide +kernel
theorem dX0_become_2 : decode cX0_become 2 = .ok (.getfield 9, 3) := by decide +kernel
theorem dX0_become_5 : decode cX0_become 5 = .ok (.putfield 9, 3) := by decide +kernel
theorem dX0_become_8 : decode cX0_become 8 = .ok (.aload_n 0, 1) := by decide +kernel
theorem dX0_become_9 : decode cX0_become 9 = .ok (.aload_n 1, 1) := by decide +kernel
theorem dX0_become_10 : decode cX0_become 10 = .ok (.getfield 15, 3) := by decide +kernel
theorem dX0_become_13 : decode cX0_become 13 = .ok (.putfield 15, 3) := by decide +kernel
theorem dX0_become_16 : decode cX0_become 16 = .ok (.aload_n 0, 1) := by decide +kernel
theorem dX0_become_17 : decode cX0_become 17 = .ok (.aload_n 1, 1) := by decide +kernel
theorem dX0_become_18 : decode cX0_become 18 = .ok (.getfield 18, 3) := by decide +kernel
theorem dX0_become_21 : decode cX0_become 21 = .ok (.putfield 18, 3) := by decide +kernel
theorem dX0_become_24 : decode cX0_become 24 = .ok (.aload_n 0, 1) := by decide +kernel
theorem dX0_become_25 : decode cX0_become 25 = .ok (.aload_n 1, 1) := by decide +kernel
theorem dX0_become_26 : decode cX0_become 26 = .ok (.getfield 22, 3) := by decide +kernel
theorem dX0_become_29 : decode cX0_become 29 = .ok (.putfield 22, 3) := by decide +kernel
theorem dX0_become_32 : decode cX0_become 32 = .ok (.aload_n 0, 1) := by decide +kernel
theorem dX0_become_33 : decode cX0_become 33 = .ok (.aload_n 1, 1) := by decide +kernel
theorem dX0_become_34 : decode cX0_become 34 = .ok (.getfield 25, 3) := by decide +kernel
theorem dX0_become_37 : decode cX0_become 37 = .ok (.putfield 25, 3) := by decide +kernel
theorem dX0_become_40 : decode cX0_become 40 = .ok (.aload_n 0, 1) := by decide +kernel
theorem dX0_become_41 : decode cX0_become 41 = .ok (.aload_n 1, 1) := by decide +kernel
theorem dX0_become_42 : decode cX0_become 42 = .ok (.getfield 28, 3) := by decide +kernel
theorem dX0_become_45 : decode cX0_become 45 = .ok (.putfield 28, 3) := by decide +kernel
theorem dX0_become_48 : decode cX0_become 48 = .ok (.aload_n 0, 1) := by decide +kernel
theorem dX0_become_49 : decode cX0_become 49 = .ok (.aload_n 1, 1) := by decide +kernel
theorem dX0_become_50 : decode cX0_become 50 = .ok (.getfield 31, 3) := by decide +kernel
theorem dX0_become_53 : decode cX0_become 53 = .ok (.putfield 31, 3) := by decide +kernel
theorem dX0_become_56 : decode cX0_become 56 = .ok (.aload_n 0, 1) := by decide +kernel
theorem dX0_become_57 : decode cX0_become 57 = .ok (.aload_n 1, 1) := by decide +kernel
theorem dX0_become_58 : decode cX0_become 58 = .ok (.getfield 34, 3) := by decide +kernel
theorem dX0_become_61 : decode cX0_become 61 = .ok (.putfield 34, 3) := by decide +kernel
theorem dX0_become_64 : decode cX0_become 64 = .ok (.aload_n 0, 1) := by decide +kernel
theorem dX0_become_65 : decode cX0_become 65 = .ok (.aload_n 1, 1) := by decide +kernel
theorem dX0_become_66 : decode cX0_become 66 = .ok (.getfield 37, 3) := by decide +kernel
theorem dX0_become_69 : decode cX0_become 69 = .ok (.putfield 37, 3) := by decide +kernel
theorem dX0_become_72 : decode cX0_become 72 = .ok (.aload_n 0, 1) := by decide +kernel
theorem dX0_become_73 : decode cX0_become 73 = .ok (.aload_n 1, 1) := by decide +kernel
theorem dX0_become_74 : decode cX0_become 74 = .ok (.getfield 40, 3) := by decide +kernel
theorem dX0_become_77 : decode cX0_become 77 = .ok (.putfield 40, 3) := by decide +kernel
theorem dX0_become_80 : decode cX0_become 80 = .ok (.aload_n 0, 1) := by decide +kernel
theorem dX0_become_81 : decode cX0_become 81 = .ok (.aload_n 1, 1) := by decide +kernel
theorem dX0_become_82 : decode cX0_become 82 = .ok (.getfield 43, 3) := by decide +kernel
theorem dX0_become_85 : decode cX0_become 85 = .ok (.putfield 43, 3) := by decide +kernel
theorem dX0_become_88 : decode cX0_become 88 = .ok (.aload_n 0, 1) := by decide +kernel
theorem dX0_become_89 : decode cX0_become 89 = .ok (.aload_n 1, 1) := by decide +kernel
theorem dX0_become_90 : decode cX0_become 90 = .ok (.getfield 46, 3) := by decide +kernel
theorem dX0_become_93 : decode cX0_become 93 = .ok (.putfield 46, 3) := by decide +kernel
theorem dX0_become_96 : decode cX0_become 96 = .ok (.return_, 1) := by decide +kernel
theorem dX0_startFrom_0 : decode cX0_startFrom 0 = .ok (.aload_n 0, 1) := by decide +kernel
theorem dX0_startFrom_1 : decode cX0_startFrom 1 = .ok (.iload_n 1, 1) := by decide +kernel
theorem dX0_startFrom_2 : decode cX0_startFrom 2 = .ok (.i2l, 1) := by decide +kernel
theorem dX0_startFrom_3 : decode cX0_startFrom 3 = .ok (.putfield 9, 3) := by decide +kernel
theorem dX0_startFrom_6 : decode cX0_startFrom 6 = .ok (.aload_n 0, 1) := by decide +kernel
theorem dX0_startFrom_7 : decode cX0_startFrom 7 = .ok (.lconst 0, 1) := by decide +kernel
theorem dX0_startFrom_8 : decode cX0_startFrom 8 = .ok (.putfield 15, 3) := by decide +kernel
theorem dX0_startFrom_11 : decode cX0_startFrom 11 = .ok (.aload_n 0, 1) := by decide +kernel
theorem dX0_startFrom_12 : decode cX0_startFrom 12 = .ok (.iconst 0, 1) := by decide +kernel
theorem dX0_startFrom_13 : decode cX0_startFrom 13 = .ok (.putfield 18, 3) := by decide +kernel
theorem dX0_startFrom_16 : decode cX0_startFrom 16 = .ok (.aload_n 0, 1) := by decide +kernel
theorem dX0_startFrom_17 : decode cX0_startFrom 17 = .ok (.iconst 0, 1) := by decide +kernel
theorem dX0_startFrom_18 : decode cX0_startFrom 18 = .ok (.putfield 22, 3) := by decide +kernel
theorem dX0_startFrom_21 : decode cX0_startFrom 21 = .ok (.aload_n 0, 1) := by decide +kernel
theorem dX0_startFrom_22 : decode cX0_startFrom 22 = .ok (.iconst 0, 1) := by decide +kernel
theorem dX0_startFrom_23 : decode cX0_startFrom 23 = .ok (.putfield 25, 3) := by decide +kernel
theorem dX0_startFrom_26 : decode cX0_startFrom 26 = .ok (.aload_n 0, 1) := by decide +kernel
theorem dX0_startFrom_27 : decode cX0_startFrom 27 = .ok (.iconst 0, 1) := by decide +kernel
theorem dX0_startFrom_28 : decode cX0_startFrom 28 = .ok (.putfield 31, 3) := by decide +kernel
theorem dX0_startFrom_31 : decode cX0_startFrom 31 = .ok (.aload_n 0, 1) := by decide +kernel
theorem dX0_startFrom_32 : decode cX0_startFrom 32 = .ok (.lconst 0, 1) := by decide +kernel
theorem dX0_startFrom_33 : decode cX0_startFrom 33 = .ok (.putfield 43, 3) := by decide +kernel
theorem dX0_startFrom_36 : decode cX0_startFrom 36 = .ok (.aload_n 0, 1) := by decide +kernel
theorem dX0_startFrom_37 : decode cX0_startFrom 37 = .ok (.lconst 0, 1) := by decide +kernel
theorem dX0_startFrom_38 : decode cX0_startFrom 38 = .ok (.putfield 46, 3) := by decide +kernel
theorem dX0_startFrom_41 : decode cX0_startFrom 41 = .ok (.return_, 1) := by decide +kernel
theorem dX0_beginAnew_0 : decode cX0_beginAnew 0 = .ok (.aload_n 0, 1) := by decide +kernel
theorem dX0_beginAnew_1 : decode cX0_beginAnew 1 = .ok (.iload_n 1, 1) := by decide +kernel
theorem dX0_beginAnew_2 : decode cX0_beginAnew 2 = .ok (.invokevirtual 49, 3) := by decide +kernel
theorem dX0_beginAnew_5 : decode cX0_beginAnew 5 = .ok (.aload_n 0, 1) := by decide +kernel
theorem dX0_beginAnew_6 : decode cX0_beginAnew 6 = .ok (.aload_n 0, 1) := by decide +kernel
theorem dX0_beginAnew_7 : decode cX0_beginAnew 7 = .ok (.invokevirtual 53, 3) := by decide +kernel
theorem dX0_beginAnew_10 : decode cX0_beginAnew 10 = .ok (.putfield 25, 3) := by decide +kernel
theorem dX0_beginAnew_13 : decode cX0_beginAnew 13 = .ok (.aload_n 0, 1) := by decide +kernel
theorem dX0_beginAnew_14 : decode cX0_beginAnew 14 = .ok (.iconst 0, 1) := by decide +kernel
theorem dX0_beginAnew_15 : decode cX0_beginAnew 15 = .ok (.putfield 28, 3) := by decide +kernel
theorem dX0_beginAnew_18 : decode cX0_beginAnew 18 = .ok (.aload_n 0, 1) := by decide +kernel
theorem dX0_beginAnew_19 : decode cX0_beginAnew 19 = .ok (.iconst 0, 1) := by decide +kernel
theorem dX0_beginAnew_20 : decode cX0_beginAnew 20 = .ok (.putfield 34, 3) := by decide +kernel
theorem dX0_beginAnew_23 : decode cX0_beginAnew 23 = .ok (.aload_n 0, 1) := by decide +kernel
theorem dX0_beginAnew_24 : decode cX0_beginAnew 24 = .ok (.iconst 0, 1) := by decide +kernel
theorem dX0_beginAnew_25 : decode cX0_beginAnew 25 = .ok (.putfield 37, 3) := by decide +kernel
theorem dX0_beginAnew_28 : decode cX0_beginAnew 28 = .ok (.aload_n 0, 1) := by decide +kernel
theorem dX0_beginAnew_29 : decode cX0_beginAnew 29 = .ok (.iconst 0, 1) := by decide +kernel
theorem dX0_beginAnew_30 : decode cX0_beginAnew 30 = .ok (.putfield 40, 3) := by decide +kernel
theorem dX0_beginAnew_33 : decode cX0_beginAnew 33 = .ok (.return_, 1) := by decide +kernel
theorem dX0_distance_0 : decode cX0_distance 0 = .ok (.aload_n 0, 1) := by decide +kernel
theorem dX0_distance_1 : decode cX0_distance 1 = .ok (.getfield 9, 3) := by decide +kernel
theorem dX0_distance_4 : decode cX0_distance 4 = .ok (.invokestatic 57, 3) := by decide +kernel
theorem dX0_distance_7 : decode cX0_distance 7 = .ok (.l2i, 1) := by decide +kernel
theorem dX0_distance_8 : decode cX0_distance 8 = .ok (.ireturn, 1) := by decide +kernel
theorem dX0_otherDistance_0 : decode cX0_otherDistance 0 = .ok (.aload_n 0, 1) := by decide +kernel
theorem dX0_otherDistance_1 : decode cX0_otherDistance 1 = .ok (.getfield 43, 3) := by decide +kernel
theorem dX0_otherDistance_4 : decode cX0_otherDistance 4 = .ok (.invokestatic 57, 3) := by decide +kernel
theorem dX0_otherDistance_7 : decode cX0_otherDistance 7 = .ok (.l2i, 1) := by decide +kernel
theorem dX0_otherDistance_8 : decode cX0_otherDistance 8 = .ok (.ireturn, 1) := by decide +kernel
theorem dX0_step_0 : decode cX0_step 0 = .ok (.aload_n 0, 1) := by decide +kernel
theorem dX0_step_1 : decode cX0_step 1 = .ok (.getfield 9, 3) := by decide +kernel
theorem dX0_step_4 : decode cX0_step 4 = .ok (.lstore 4, 2) := by decide +kernel
theorem dX0_step_6 : decode cX0_step 6 = .ok (.aload_n 0, 1) := by decide +kernel
theorem dX0_step_7 : decode cX0_step 7 = .ok (.iload_n 2, 1) := by decide +kernel
theorem dX0_step_8 : decode cX0_step 8 = .ok (.aload_n 1, 1) := by decide +kernel
theorem dX0_step_9 : decode cX0_step 9 = .ok (.invokevirtual 63, 3) := by decide +kernel
theorem dX0_step_12 : decode cX0_step 12 = .ok (.aload_n 0, 1) := by decide +kernel
theorem dX0_step_13 : decode cX0_step 13 = .ok (.dup, 1) := by decide +kernel
theorem dX0_step_14 : decode cX0_step 14 = .ok (.getfield 15, 3) := by decide +kernel
theorem dX0_step_17 : decode cX0_step 17 = .ok (.iload_n 3, 1) := by decide +kernel
theorem dX0_step_18 : decode cX0_step 18 = .ok (.i2l, 1) := by decide +kernel
theorem dX0_step_19 : decode cX0_step 19 = .ok (.ladd, 1) := by decide +kernel
theorem dX0_step_20 : decode cX0_step 20 = .ok (.putfield 15, 3) := by decide +kernel
theorem dX0_step_23 : decode cX0_step 23 = .ok (.aload_n 0, 1) := by decide +kernel
theorem dX0_step_24 : decode cX0_step 24 = .ok (.aload_n 1, 1) := by decide +kernel
theorem dX0_step_25 : decode cX0_step 25 = .ok (.invokevirtual 67, 3) := by decide +kernel
theorem dX0_step_28 : decode cX0_step 28 = .ok (.aload_n 0, 1) := by decide +kernel
theorem dX0_step_29 : decode cX0_step 29 = .ok (.dup, 1) := by decide +kernel
theorem dX0_step_30 : decode cX0_step 30 = .ok (.getfield 9, 3) := by decide +kernel
theorem dX0_step_33 : decode cX0_step 33 = .ok (.aload_n 0, 1) := by decide +kernel
theorem dX0_step_34 : decode cX0_step 34 = .ok (.getfield 15, 3) := by decide +kernel
theorem dX0_step_37 : decode cX0_step 37 = .ok (.ladd, 1) := by decide +kernel
theorem dX0_step_38 : decode cX0_step 38 = .ok (.putfield 9, 3) := by decide +kernel
theorem dX0_step_41 : decode cX0_step 41 = .ok (.aload_n 0, 1) := by decide +kernel
theorem dX0_step_42 : decode cX0_step 42 = .ok (.invokevirtual 71, 3) := by decide +kernel
theorem dX0_step_45 : decode cX0_step 45 = .ok (.aload_n 0, 1) := by decide +kernel
theorem dX0_step_46 : decode cX0_step 46 = .ok (.invokevirtual 74, 3) := by decide +kernel
theorem dX0_step_49 : decode cX0_step 49 = .ok (.ifCond .ne 10, 3) := by decide +kernel
theorem dX0_step_52 : decode cX0_step 52 = .ok (.aload_n 0, 1) := by decide +kernel
theorem dX0_step_53 : decode cX0_step 53 = .ok (.invokevirtual 78, 3) := by decide +kernel
theorem dX0_step_56 : decode cX0_step 56 = .ok (.ifCond .eq 7, 3) := by decide +kernel
theorem dX0_step_59 : decode cX0_step 59 = .ok (.iconst 1, 1) := by decide +kernel
theorem dX0_step_60 : decode cX0_step 60 = .ok (.goto 4, 3) := by decide +kernel
theorem dX0_step_63 : decode cX0_step 63 = .ok (.iconst 0, 1) := by decide +kernel
theorem dX0_step_64 : decode cX0_step 64 = .ok (.istore 6, 2) := by decide +kernel
theorem dX0_step_66 : decode cX0_step 66 = .ok (.iload 6, 2) := by decide +kernel
theorem dX0_step_68 : decode cX0_step 68 = .ok (.ifCond .eq 11, 3) := by decide +kernel
theorem dX0_step_71 : decode cX0_step 71 = .ok (.aload_n 0, 1) := by decide +kernel
theorem dX0_step_72 : decode cX0_step 72 = .ok (.aload_n 0, 1) := by decide +kernel
theorem dX0_step_73 : decode cX0_step 73 = .ok (.invokevirtual 53, 3) := by decide +kernel
theorem dX0_step_76 : decode cX0_step 76 = .ok (.putfield 25, 3) := by decide +kernel
theorem dX0_step_79 : decode cX0_step 79 = .ok (.aload_n 0, 1) := by decide +kernel
theorem dX0_step_80 : decode cX0_step 80 = .ok (.aload_n 0, 1) := by decide +kernel
theorem dX0_step_81 : decode cX0_step 81 = .ok (.lload 4, 2) := by decide +kernel
theorem dX0_step_83 : decode cX0_step 83 = .ok (.invokevirtual 81, 3) := by decide +kernel
theorem dX0_step_86 : decode cX0_step 86 = .ok (.ifCond .eq 7, 3) := by decide +kernel
theorem dX0_step_89 : decode cX0_step 89 = .ok (.iconst 0, 1) := by decide +kernel
theorem dX0_step_90 : decode cX0_step 90 = .ok (.goto 9, 3) := by decide +kernel
theorem dX0_step_93 : decode cX0_step 93 = .ok (.aload_n 0, 1) := by decide +kernel
theorem dX0_step_94 : decode cX0_step 94 = .ok (.getfield 22, 3) := by decide +kernel
theorem dX0_step_97 : decode cX0_step 97 = .ok (.iconst 1, 1) := by decide +kernel
theorem dX0_step_98 : decode cX0_step 98 = .ok (.iadd, 1) := by decide +kernel
theorem dX0_step_99 : decode cX0_step 99 = .ok (.putfield 22, 3) := by decide +kernel
theorem dX0_step_102 : decode cX0_step 102 = .ok (.aload_n 0, 1) := by decide +kernel
theorem dX0_step_103 : decode cX0_step 103 = .ok (.dup, 1) := by decide +kernel
theorem dX0_step_104 : decode cX0_step 104 = .ok (.getfield 28, 3) := by decide +kernel
theorem dX0_step_107 : decode cX0_step 107 = .ok (.iconst 1, 1) := by decide +kernel
theorem dX0_step_108 : decode cX0_step 108 = .ok (.iadd, 1) := by decide +kernel
theorem dX0_step_109 : decode cX0_step 109 = .ok (.putfield 28, 3) := by decide +kernel
theorem dX0_step_112 : decode cX0_step 112 = .ok (.iload 6, 2) := by decide +kernel
theorem dX0_step_114 : decode cX0_step 114 = .ok (.ireturn, 1) := by decide +kernel
theorem dX0_bendToward_0 : decode cX0_bendToward 0 = .ok (.aload_n 2, 1) := by decide +kernel
theorem dX0_bendToward_1 : decode cX0_bendToward 1 = .ok (.iconst 4, 1) := by decide +kernel
theorem dX0_bendToward_2 : decode cX0_bendToward 2 = .ok (.iaload, 1) := by decide +kernel
theorem dX0_bendToward_3 : decode cX0_bendToward 3 = .ok (.ineg, 1) := by decide +kernel
theorem dX0_bendToward_4 : decode cX0_bendToward 4 = .ok (.aload_n 2, 1) := by decide +kernel
theorem dX0_bendToward_5 : decode cX0_bendToward 5 = .ok (.iconst 4, 1) := by decide +kernel
theorem dX0_bendToward_6 : decode cX0_bendToward 6 = .ok (.iaload, 1) := by decide +kernel
theorem dX0_bendToward_7 : decode cX0_bendToward 7 = .ok (.iload_n 1, 1) := by decide +kernel
theorem dX0_bendToward_8 : decode cX0_bendToward 8 = .ok (.aload_n 0, 1) := by decide +kernel
theorem dX0_bendToward_9 : decode cX0_bendToward 9 = .ok (.getfield 18, 3) := by decide +kernel
theorem dX0_bendToward_12 : decode cX0_bendToward 12 = .ok (.isub, 1) := by decide +kernel
theorem dX0_bendToward_13 : decode cX0_bendToward 13 = .ok (.invokestatic 85, 3) := by decide +kernel
theorem dX0_bendToward_16 : decode cX0_bendToward 16 = .ok (.invokestatic 89, 3) := by decide +kernel
theorem dX0_bendToward_19 : decode cX0_bendToward 19 = .ok (.istore_n 3, 1) := by decide +kernel
theorem dX0_bendToward_20 : decode cX0_bendToward 20 = .ok (.aload_n 0, 1) := by decide +kernel
theorem dX0_bendToward_21 : decode cX0_bendToward 21 = .ok (.aload_n 2, 1) := by decide +kernel
theorem dX0_bendToward_22 : decode cX0_bendToward 22 = .ok (.invokevirtual 92, 3) := by decide +kernel
theorem dX0_bendToward_25 : decode cX0_bendToward 25 = .ok (.lstore 4, 2) := by decide +kernel
theorem dX0_bendToward_27 : decode cX0_bendToward 27 = .ok (.aload_n 0, 1) := by decide +kernel
theorem dX0_bendToward_28 : decode cX0_bendToward 28 = .ok (.iload_n 3, 1) := by decide +kernel
theorem dX0_bendToward_29 : decode cX0_bendToward 29 = .ok (.invokestatic 96, 3) := by decide +kernel
theorem dX0_bendToward_32 : decode cX0_bendToward 32 = .ok (.invokevirtual 99, 3) := by decide +kernel
theorem dX0_bendToward_35 : decode cX0_bendToward 35 = .ok (.aload_n 0, 1) := by decide +kernel
theorem dX0_bendToward_36 : decode cX0_bendToward 36 = .ok (.dup, 1) := by decide +kernel
theorem dX0_bendToward_37 : decode cX0_bendToward 37 = .ok (.getfield 18, 3) := by decide +kernel
theorem dX0_bendToward_40 : decode cX0_bendToward 40 = .ok (.iload_n 3, 1) := by decide +kernel
theorem dX0_bendToward_41 : decode cX0_bendToward 41 = .ok (.iadd, 1) := by decide +kernel
theorem dX0_bendToward_42 : decode cX0_bendToward 42 = .ok (.putfield 18, 3) := by decide +kernel
theorem dX0_bendToward_45 : decode cX0_bendToward 45 = .ok (.aload_n 0, 1) := by decide +kernel
theorem dX0_bendToward_46 : decode cX0_bendToward 46 = .ok (.aload_n 2, 1) := by decide +kernel
theorem dX0_bendToward_47 : decode cX0_bendToward 47 = .ok (.invokevirtual 92, 3) := by decide +kernel
theorem dX0_bendToward_50 : decode cX0_bendToward 50 = .ok (.lstore 6, 2) := by decide +kernel
theorem dX0_bendToward_52 : decode cX0_bendToward 52 = .ok (.aload_n 0, 1) := by decide +kernel
theorem dX0_bendToward_53 : decode cX0_bendToward 53 = .ok (.aload_n 0, 1) := by decide +kernel
theorem dX0_bendToward_54 : decode cX0_bendToward 54 = .ok (.getfield 15, 3) := by decide +kernel
theorem dX0_bendToward_57 : decode cX0_bendToward 57 = .ok (.lload 4, 2) := by decide +kernel
theorem dX0_bendToward_59 : decode cX0_bendToward 59 = .ok (.lmul, 1) := by decide +kernel
theorem dX0_bendToward_60 : decode cX0_bendToward 60 = .ok (.lload 4, 2) := by decide +kernel
theorem dX0_bendToward_62 : decode cX0_bendToward 62 = .ok (.lmul, 1) := by decide +kernel
theorem dX0_bendToward_63 : decode cX0_bendToward 63 = .ok (.lload 6, 2) := by decide +kernel
theorem dX0_bendToward_65 : decode cX0_bendToward 65 = .ok (.lload 6, 2) := by decide +kernel
theorem dX0_bendToward_67 : decode cX0_bendToward 67 = .ok (.lmul, 1) := by decide +kernel
theorem dX0_bendToward_68 : decode cX0_bendToward 68 = .ok (.invokestatic 102, 3) := by decide +kernel
theorem dX0_bendToward_71 : decode cX0_bendToward 71 = .ok (.putfield 15, 3) := by decide +kernel
theorem dX0_bendToward_74 : decode cX0_bendToward 74 = .ok (.aload_n 0, 1) := by decide +kernel
theorem dX0_bendToward_75 : decode cX0_bendToward 75 = .ok (.dup, 1) := by decide +kernel
theorem dX0_bendToward_76 : decode cX0_bendToward 76 = .ok (.getfield 15, 3) := by decide +kernel
theorem dX0_bendToward_79 : decode cX0_bendToward 79 = .ok (.aload_n 2, 1) := by decide +kernel
theorem dX0_bendToward_80 : decode cX0_bendToward 80 = .ok (.iconst 5, 1) := by decide +kernel
theorem dX0_bendToward_81 : decode cX0_bendToward 81 = .ok (.iaload, 1) := by decide +kernel
theorem dX0_bendToward_82 : decode cX0_bendToward 82 = .ok (.i2l, 1) := by decide +kernel
theorem dX0_bendToward_83 : decode cX0_bendToward 83 = .ok (.ldc2_w 106, 3) := by decide +kernel
theorem dX0_bendToward_86 : decode cX0_bendToward 86 = .ok (.lmul, 1) := by decide +kernel
theorem dX0_bendToward_87 : decode cX0_bendToward 87 = .ok (.iload_n 3, 1) := by decide +kernel
theorem dX0_bendToward_88 : decode cX0_bendToward 88 = .ok (.i2l, 1) := by decide +kernel
theorem dX0_bendToward_89 : decode cX0_bendToward 89 = .ok (.lmul, 1) := by decide +kernel
theorem dX0_bendToward_90 : decode cX0_bendToward 90 = .ok (.ladd, 1) := by decide +kernel
theorem dX0_bendToward_91 : decode cX0_bendToward 91 = .ok (.putfield 15, 3) := by decide +kernel
theorem dX0_bendToward_94 : decode cX0_bendToward 94 = .ok (.return_, 1) := by decide +kernel
theorem dX0_useStrength_0 : decode cX0_useStrength 0 = .ok (.iload_n 1, 1) := by decide +kernel
theorem dX0_useStrength_1 : decode cX0_useStrength 1 = .ok (.i2l, 1) := by decide +kernel
theorem dX0_useStrength_2 : decode cX0_useStrength 2 = .ok (.ldc2_w 108, 3) := by decide +kernel
theorem dX0_useStrength_5 : decode cX0_useStrength 5 = .ok (.aload_n 0, 1) := by decide +kernel
theorem dX0_useStrength_6 : decode cX0_useStrength 6 = .ok (.getfield 15, 3) := by decide +kernel
theorem dX0_useStrength_9 : decode cX0_useStrength 9 = .ok (.invokestatic 57, 3) := by decide +kernel
theorem dX0_useStrength_12 : decode cX0_useStrength 12 = .ok (.ldc2_w 110, 3) := by decide +kernel
theorem dX0_useStrength_15 : decode cX0_useStrength 15 = .ok (.ldiv, 1) := by decide +kernel
theorem dX0_useStrength_16 : decode cX0_useStrength 16 = .ok (.ladd, 1) := by decide +kernel
theorem dX0_useStrength_17 : decode cX0_useStrength 17 = .ok (.lmul, 1) := by decide +kernel
theorem dX0_useStrength_18 : decode cX0_useStrength 18 = .ok (.lstore_n 2, 1) := by decide +kernel
theorem dX0_useStrength_19 : decode cX0_useStrength 19 = .ok (.aload_n 0, 1) := by decide +kernel
theorem dX0_useStrength_20 : decode cX0_useStrength 20 = .ok (.ldc2_w 112, 3) := by decide +kernel
theorem dX0_useStrength_23 : decode cX0_useStrength 23 = .ok (.aload_n 0, 1) := by decide +kernel
theorem dX0_useStrength_24 : decode cX0_useStrength 24 = .ok (.getfield 34, 3) := by decide +kernel
theorem dX0_useStrength_27 : decode cX0_useStrength 27 = .ok (.i2l, 1) := by decide +kernel
theorem dX0_useStrength_28 : decode cX0_useStrength 28 = .ok (.lload_n 2, 1) := by decide +kernel
theorem dX0_useStrength_29 : decode cX0_useStrength 29 = .ok (.ladd, 1) := by decide +kernel
theorem dX0_useStrength_30 : decode cX0_useStrength 30 = .ok (.invokestatic 114, 3) := by decide +kernel
theorem dX0_useStrength_33 : decode cX0_useStrength 33 = .ok (.l2i, 1) := by decide +kernel
theorem dX0_useStrength_34 : decode cX0_useStrength 34 = .ok (.putfield 34, 3) := by decide +kernel
theorem dX0_useStrength_37 : decode cX0_useStrength 37 = .ok (.return_, 1) := by decide +kernel
theorem dX0_drawBoth_0 : decode cX0_drawBoth 0 = .ok (.aload_n 1, 1) := by decide +kernel
theorem dX0_drawBoth_1 : decode cX0_drawBoth 1 = .ok (.bipush 6, 2) := by decide +kernel
theorem dX0_drawBoth_3 : decode cX0_drawBoth 3 = .ok (.iaload, 1) := by decide +kernel
theorem dX0_drawBoth_4 : decode cX0_drawBoth 4 = .ok (.i2l, 1) := by decide +kernel
theorem dX0_drawBoth_5 : decode cX0_drawBoth 5 = .ok (.aload_n 0, 1) := by decide +kernel
theorem dX0_drawBoth_6 : decode cX0_drawBoth 6 = .ok (.getfield 43, 3) := by decide +kernel
theorem dX0_drawBoth_9 : decode cX0_drawBoth 9 = .ok (.aload_n 0, 1) := by decide +kernel
theorem dX0_drawBoth_10 : decode cX0_drawBoth 10 = .ok (.getfield 9, 3) := by decide +kernel
theorem dX0_drawBoth_13 : decode cX0_drawBoth 13 = .ok (.lsub, 1) := by decide +kernel
theorem dX0_drawBoth_14 : decode cX0_drawBoth 14 = .ok (.lmul, 1) := by decide +kernel
theorem dX0_drawBoth_15 : decode cX0_drawBoth 15 = .ok (.ldc2_w 116, 3) := by decide +kernel
theorem dX0_drawBoth_18 : decode cX0_drawBoth 18 = .ok (.ldiv, 1) := by decide +kernel
theorem dX0_drawBoth_19 : decode cX0_drawBoth 19 = .ok (.lstore_n 2, 1) := by decide +kernel
theorem dX0_drawBoth_20 : decode cX0_drawBoth 20 = .ok (.aload_n 0, 1) := by decide +kernel
theorem dX0_drawBoth_21 : decode cX0_drawBoth 21 = .ok (.dup, 1) := by decide +kernel
theorem dX0_drawBoth_22 : decode cX0_drawBoth 22 = .ok (.getfield 15, 3) := by decide +kernel
theorem dX0_drawBoth_25 : decode cX0_drawBoth 25 = .ok (.lload_n 2, 1) := by decide +kernel
theorem dX0_drawBoth_26 : decode cX0_drawBoth 26 = .ok (.aload_n 1, 1) := by decide +kernel
theorem dX0_drawBoth_27 : decode cX0_drawBoth 27 = .ok (.iconst 1, 1) := by decide +kernel
theorem dX0_drawBoth_28 : decode cX0_drawBoth 28 = .ok (.iaload, 1) := by decide +kernel
theorem dX0_drawBoth_29 : decode cX0_drawBoth 29 = .ok (.i2l, 1) := by decide +kernel
theorem dX0_drawBoth_30 : decode cX0_drawBoth 30 = .ok (.aload_n 0, 1) := by decide +kernel
theorem dX0_drawBoth_31 : decode cX0_drawBoth 31 = .ok (.getfield 9, 3) := by decide +kernel
theorem dX0_drawBoth_34 : decode cX0_drawBoth 34 = .ok (.lmul, 1) := by decide +kernel
theorem dX0_drawBoth_35 : decode cX0_drawBoth 35 = .ok (.aload_n 0, 1) := by decide +kernel
theorem dX0_drawBoth_36 : decode cX0_drawBoth 36 = .ok (.aload_n 1, 1) := by decide +kernel
theorem dX0_drawBoth_37 : decode cX0_drawBoth 37 = .ok (.invokevirtual 92, 3) := by decide +kernel
theorem dX0_drawBoth_40 : decode cX0_drawBoth 40 = .ok (.invokestatic 102, 3) := by decide +kernel
theorem dX0_drawBoth_43 : decode cX0_drawBoth 43 = .ok (.lsub, 1) := by decide +kernel
theorem dX0_drawBoth_44 : decode cX0_drawBoth 44 = .ok (.ladd, 1) := by decide +kernel
theorem dX0_drawBoth_45 : decode cX0_drawBoth 45 = .ok (.putfield 15, 3) := by decide +kernel
theorem dX0_drawBoth_48 : decode cX0_drawBoth 48 = .ok (.aload_n 0, 1) := by decide +kernel
theorem dX0_drawBoth_49 : decode cX0_drawBoth 49 = .ok (.dup, 1) := by decide +kernel
theorem dX0_drawBoth_50 : decode cX0_drawBoth 50 = .ok (.getfield 46, 3) := by decide +kernel
theorem dX0_drawBoth_53 : decode cX0_drawBoth 53 = .ok (.lload_n 2, 1) := by decide +kernel
theorem dX0_drawBoth_54 : decode cX0_drawBoth 54 = .ok (.aload_n 1, 1) := by decide +kernel
theorem dX0_drawBoth_55 : decode cX0_drawBoth 55 = .ok (.iconst 1, 1) := by decide +kernel
theorem dX0_drawBoth_56 : decode cX0_drawBoth 56 = .ok (.iaload, 1) := by decide +kernel
theorem dX0_drawBoth_57 : decode cX0_drawBoth 57 = .ok (.i2l, 1) := by decide +kernel
theorem dX0_drawBoth_58 : decode cX0_drawBoth 58 = .ok (.aload_n 0, 1) := by decide +kernel
theorem dX0_drawBoth_59 : decode cX0_drawBoth 59 = .ok (.getfield 43, 3) := by decide +kernel
theorem dX0_drawBoth_62 : decode cX0_drawBoth 62 = .ok (.lmul, 1) := by decide +kernel
theorem dX0_drawBoth_63 : decode cX0_drawBoth 63 = .ok (.aload_n 1, 1) := by decide +kernel
theorem dX0_drawBoth_64 : decode cX0_drawBoth 64 = .ok (.bipush 7, 2) := by decide +kernel
theorem dX0_drawBoth_66 : decode cX0_drawBoth 66 = .ok (.iaload, 1) := by decide +kernel
theorem dX0_drawBoth_67 : decode cX0_drawBoth 67 = .ok (.i2l, 1) := by decide +kernel
theorem dX0_drawBoth_68 : decode cX0_drawBoth 68 = .ok (.invokestatic 102, 3) := by decide +kernel
theorem dX0_drawBoth_71 : decode cX0_drawBoth 71 = .ok (.ladd, 1) := by decide +kernel
theorem dX0_drawBoth_72 : decode cX0_drawBoth 72 = .ok (.lsub, 1) := by decide +kernel
theorem dX0_drawBoth_73 : decode cX0_drawBoth 73 = .ok (.putfield 46, 3) := by decide +kernel
theorem dX0_drawBoth_76 : decode cX0_drawBoth 76 = .ok (.aload_n 0, 1) := by decide +kernel
theorem dX0_drawBoth_77 : decode cX0_drawBoth 77 = .ok (.dup, 1) := by decide +kernel
theorem dX0_drawBoth_78 : decode cX0_drawBoth 78 = .ok (.getfield 15, 3) := by decide +kernel
theorem dX0_drawBoth_81 : decode cX0_drawBoth 81 = .ok (.aload_n 0, 1) := by decide +kernel
theorem dX0_drawBoth_82 : decode cX0_drawBoth 82 = .ok (.getfield 15, 3) := by decide +kernel
theorem dX0_drawBoth_85 : decode cX0_drawBoth 85 = .ok (.aload_n 1, 1) := by decide +kernel
theorem dX0_drawBoth_86 : decode cX0_drawBoth 86 = .ok (.iconst 2, 1) := by decide +kernel
theorem dX0_drawBoth_87 : decode cX0_drawBoth 87 = .ok (.iaload, 1) := by decide +kernel
theorem dX0_drawBoth_88 : decode cX0_drawBoth 88 = .ok (.i2l, 1) := by decide +kernel
theorem dX0_drawBoth_89 : decode cX0_drawBoth 89 = .ok (.lmul, 1) := by decide +kernel
theorem dX0_drawBoth_90 : decode cX0_drawBoth 90 = .ok (.ldc2_w 116, 3) := by decide +kernel
theorem dX0_drawBoth_93 : decode cX0_drawBoth 93 = .ok (.ldiv, 1) := by decide +kernel
theorem dX0_drawBoth_94 : decode cX0_drawBoth 94 = .ok (.lsub, 1) := by decide +kernel
theorem dX0_drawBoth_95 : decode cX0_drawBoth 95 = .ok (.putfield 15, 3) := by decide +kernel
theorem dX0_drawBoth_98 : decode cX0_drawBoth 98 = .ok (.aload_n 0, 1) := by decide +kernel
theorem dX0_drawBoth_99 : decode cX0_drawBoth 99 = .ok (.dup, 1) := by decide +kernel
theorem dX0_drawBoth_100 : decode cX0_drawBoth 100 = .ok (.getfield 46, 3) := by decide +kernel
theorem dX0_drawBoth_103 : decode cX0_drawBoth 103 = .ok (.aload_n 0, 1) := by decide +kernel
theorem dX0_drawBoth_104 : decode cX0_drawBoth 104 = .ok (.getfield 46, 3) := by decide +kernel
theorem dX0_drawBoth_107 : decode cX0_drawBoth 107 = .ok (.aload_n 1, 1) := by decide +kernel
theorem dX0_drawBoth_108 : decode cX0_drawBoth 108 = .ok (.iconst 2, 1) := by decide +kernel
theorem dX0_drawBoth_109 : decode cX0_drawBoth 109 = .ok (.iaload, 1) := by decide +kernel
theorem dX0_drawBoth_110 : decode cX0_drawBoth 110 = .ok (.i2l, 1) := by decide +kernel
theorem dX0_drawBoth_111 : decode cX0_drawBoth 111 = .ok (.lmul, 1) := by decide +kernel
theorem dX0_drawBoth_112 : decode cX0_drawBoth 112 = .ok (.ldc2_w 116, 3) := by decide +kernel
theorem dX0_drawBoth_115 : decode cX0_drawBoth 115 = .ok (.ldiv, 1) := by decide +kernel
theorem dX0_drawBoth_116 : decode cX0_drawBoth 116 = .ok (.lsub, 1) := by decide +kernel
theorem dX0_drawBoth_117 : decode cX0_drawBoth 117 = .ok (.putfield 46, 3) := by decide +kernel
theorem dX0_drawBoth_120 : decode cX0_drawBoth 120 = .ok (.return_, 1) := by decide +kernel
theorem dX0_moveOther_0 : decode cX0_moveOther 0 = .ok (.aload_n 0, 1) := by decide +kernel
theorem dX0_moveOther_1 : decode cX0_moveOther 1 = .ok (.dup, 1) := by decide +kernel
theorem dX0_moveOther_2 : decode cX0_moveOther 2 = .ok (.getfield 43, 3) := by decide +kernel
theorem dX0_moveOther_5 : decode cX0_moveOther 5 = .ok (.aload_n 0, 1) := by decide +kernel
theorem dX0_moveOther_6 : decode cX0_moveOther 6 = .ok (.getfield 46, 3) := by decide +kernel
theorem dX0_moveOther_9 : decode cX0_moveOther 9 = .ok (.ladd, 1) := by decide +kernel
theorem dX0_moveOther_10 : decode cX0_moveOther 10 = .ok (.putfield 43, 3) := by decide +kernel
theorem dX0_moveOther_13 : decode cX0_moveOther 13 = .ok (.aload_n 0, 1) := by decide +kernel
theorem dX0_moveOther_14 : decode cX0_moveOther 14 = .ok (.getfield 43, 3) := by decide +kernel
theorem dX0_moveOther_17 : decode cX0_moveOther 17 = .ok (.ldc2_w 118, 3) := by decide +kernel
theorem dX0_moveOther_20 : decode cX0_moveOther 20 = .ok (.lcmp, 1) := by decide +kernel
theorem dX0_moveOther_21 : decode cX0_moveOther 21 = .ok (.ifCond .gt 14, 3) := by decide +kernel
theorem dX0_moveOther_24 : decode cX0_moveOther 24 = .ok (.aload_n 0, 1) := by decide +kernel
theorem dX0_moveOther_25 : decode cX0_moveOther 25 = .ok (.getfield 43, 3) := by decide +kernel
theorem dX0_moveOther_28 : decode cX0_moveOther 28 = .ok (.ldc2_w 120, 3) := by decide +kernel
theorem dX0_moveOther_31 : decode cX0_moveOther 31 = .ok (.lcmp, 1) := by decide +kernel
theorem dX0_moveOther_32 : decode cX0_moveOther 32 = .ok (.ifCond .ge 30, 3) := by decide +kernel
theorem dX0_moveOther_35 : decode cX0_moveOther 35 = .ok (.aload_n 0, 1) := by decide +kernel
theorem dX0_moveOther_36 : decode cX0_moveOther 36 = .ok (.aload_n 0, 1) := by decide +kernel
theorem dX0_moveOther_37 : decode cX0_moveOther 37 = .ok (.getfield 43, 3) := by decide +kernel
theorem dX0_moveOther_40 : decode cX0_moveOther 40 = .ok (.lconst 0, 1) := by decide +kernel
theorem dX0_moveOther_41 : decode cX0_moveOther 41 = .ok (.lcmp, 1) := by decide +kernel
theorem dX0_moveOther_42 : decode cX0_moveOther 42 = .ok (.ifCond .le 9, 3) := by decide +kernel
theorem dX0_moveOther_45 : decode cX0_moveOther 45 = .ok (.ldc2_w 118, 3) := by decide +kernel
theorem dX0_moveOther_48 : decode cX0_moveOther 48 = .ok (.goto 6, 3) := by decide +kernel
theorem dX0_moveOther_51 : decode cX0_moveOther 51 = .ok (.ldc2_w 120, 3) := by decide +kernel
theorem dX0_moveOther_54 : decode cX0_moveOther 54 = .ok (.putfield 43, 3) := by decide +kernel
theorem dX0_moveOther_57 : decode cX0_moveOther 57 = .ok (.aload_n 0, 1) := by decide +kernel
theorem dX0_moveOther_58 : decode cX0_moveOther 58 = .ok (.lconst 0, 1) := by decide +kernel
theorem dX0_moveOther_59 : decode cX0_moveOther 59 = .ok (.putfield 46, 3) := by decide +kernel
theorem dX0_moveOther_62 : decode cX0_moveOther 62 = .ok (.return_, 1) := by decide +kernel
theorem dX0_wentSlack_0 : decode cX0_wentSlack 0 = .ok (.aload_n 0, 1) := by decide +kernel
theorem dX0_wentSlack_1 : decode cX0_wentSlack 1 = .ok (.getfield 9, 3) := by decide +kernel
theorem dX0_wentSlack_4 : decode cX0_wentSlack 4 = .ok (.invokestatic 57, 3) := by decide +kernel
theorem dX0_wentSlack_7 : decode cX0_wentSlack 7 = .ok (.ldc2_w 118, 3) := by decide +kernel
theorem dX0_wentSlack_10 : decode cX0_wentSlack 10 = .ok (.lsub, 1) := by decide +kernel
theorem dX0_wentSlack_11 : decode cX0_wentSlack 11 = .ok (.lstore_n 1, 1) := by decide +kernel
theorem dX0_wentSlack_12 : decode cX0_wentSlack 12 = .ok (.lload_n 1, 1) := by decide +kernel
theorem dX0_wentSlack_13 : decode cX0_wentSlack 13 = .ok (.lconst 0, 1) := by decide +kernel
theorem dX0_wentSlack_14 : decode cX0_wentSlack 14 = .ok (.lcmp, 1) := by decide +kernel
theorem dX0_wentSlack_15 : decode cX0_wentSlack 15 = .ok (.ifCond .gt 5, 3) := by decide +kernel
theorem dX0_wentSlack_18 : decode cX0_wentSlack 18 = .ok (.iconst 0, 1) := by decide +kernel
theorem dX0_wentSlack_19 : decode cX0_wentSlack 19 = .ok (.ireturn, 1) := by decide +kernel
theorem dX0_wentSlack_20 : decode cX0_wentSlack 20 = .ok (.aload_n 0, 1) := by decide +kernel
theorem dX0_wentSlack_21 : decode cX0_wentSlack 21 = .ok (.dup, 1) := by decide +kernel
theorem dX0_wentSlack_22 : decode cX0_wentSlack 22 = .ok (.getfield 37, 3) := by decide +kernel
theorem dX0_wentSlack_25 : decode cX0_wentSlack 25 = .ok (.iconst 1, 1) := by decide +kernel
theorem dX0_wentSlack_26 : decode cX0_wentSlack 26 = .ok (.iadd, 1) := by decide +kernel
theorem dX0_wentSlack_27 : decode cX0_wentSlack 27 = .ok (.putfield 37, 3) := by decide +kernel
theorem dX0_wentSlack_30 : decode cX0_wentSlack 30 = .ok (.aload_n 0, 1) := by decide +kernel
theorem dX0_wentSlack_31 : decode cX0_wentSlack 31 = .ok (.aload_n 0, 1) := by decide +kernel
theorem dX0_wentSlack_32 : decode cX0_wentSlack 32 = .ok (.getfield 40, 3) := by decide +kernel
theorem dX0_wentSlack_35 : decode cX0_wentSlack 35 = .ok (.i2l, 1) := by decide +kernel
theorem dX0_wentSlack_36 : decode cX0_wentSlack 36 = .ok (.lload_n 1, 1) := by decide +kernel
theorem dX0_wentSlack_37 : decode cX0_wentSlack 37 = .ok (.invokestatic 122, 3) := by decide +kernel
theorem dX0_wentSlack_40 : decode cX0_wentSlack 40 = .ok (.l2i, 1) := by decide +kernel
theorem dX0_wentSlack_41 : decode cX0_wentSlack 41 = .ok (.putfield 40, 3) := by decide +kernel
theorem dX0_wentSlack_44 : decode cX0_wentSlack 44 = .ok (.aload_n 0, 1) := by decide +kernel
theorem dX0_wentSlack_45 : decode cX0_wentSlack 45 = .ok (.aload_n 0, 1) := by decide +kernel
theorem dX0_wentSlack_46 : decode cX0_wentSlack 46 = .ok (.getfield 9, 3) := by decide +kernel
theorem dX0_wentSlack_49 : decode cX0_wentSlack 49 = .ok (.lconst 0, 1) := by decide +kernel
theorem dX0_wentSlack_50 : decode cX0_wentSlack 50 = .ok (.lcmp, 1) := by decide +kernel
theorem dX0_wentSlack_51 : decode cX0_wentSlack 51 = .ok (.ifCond .le 9, 3) := by decide +kernel
theorem dX0_wentSlack_54 : decode cX0_wentSlack 54 = .ok (.ldc2_w 118, 3) := by decide +kernel
theorem dX0_wentSlack_57 : decode cX0_wentSlack 57 = .ok (.goto 6, 3) := by decide +kernel
theorem dX0_wentSlack_60 : decode cX0_wentSlack 60 = .ok (.ldc2_w 120, 3) := by decide +kernel
theorem dX0_wentSlack_63 : decode cX0_wentSlack 63 = .ok (.putfield 9, 3) := by decide +kernel
theorem dX0_wentSlack_66 : decode cX0_wentSlack 66 = .ok (.aload_n 0, 1) := by decide +kernel
theorem dX0_wentSlack_67 : decode cX0_wentSlack 67 = .ok (.lconst 0, 1) := by decide +kernel
theorem dX0_wentSlack_68 : decode cX0_wentSlack 68 = .ok (.putfield 15, 3) := by decide +kernel
theorem dX0_wentSlack_71 : decode cX0_wentSlack 71 = .ok (.aload_n 0, 1) := by decide +kernel
theorem dX0_wentSlack_72 : decode cX0_wentSlack 72 = .ok (.iconst 0, 1) := by decide +kernel
theorem dX0_wentSlack_73 : decode cX0_wentSlack 73 = .ok (.putfield 31, 3) := by decide +kernel
theorem dX0_wentSlack_76 : decode cX0_wentSlack 76 = .ok (.iconst 1, 1) := by decide +kernel
theorem dX0_wentSlack_77 : decode cX0_wentSlack 77 = .ok (.ireturn, 1) := by decide +kernel
theorem dX0_turnedBack_0 : decode cX0_turnedBack 0 = .ok (.aload_n 0, 1) := by decide +kernel
theorem dX0_turnedBack_1 : decode cX0_turnedBack 1 = .ok (.getfield 15, 3) := by decide +kernel
theorem dX0_turnedBack_4 : decode cX0_turnedBack 4 = .ok (.lconst 0, 1) := by decide +kernel
theorem dX0_turnedBack_5 : decode cX0_turnedBack 5 = .ok (.lcmp, 1) := by decide +kernel
theorem dX0_turnedBack_6 : decode cX0_turnedBack 6 = .ok (.ifCond .ne 5, 3) := by decide +kernel
theorem dX0_turnedBack_9 : decode cX0_turnedBack 9 = .ok (.iconst 0, 1) := by decide +kernel
theorem dX0_turnedBack_10 : decode cX0_turnedBack 10 = .ok (.ireturn, 1) := by decide +kernel
theorem dX0_turnedBack_11 : decode cX0_turnedBack 11 = .ok (.aload_n 0, 1) := by decide +kernel
theorem dX0_turnedBack_12 : decode cX0_turnedBack 12 = .ok (.getfield 31, 3) := by decide +kernel
theorem dX0_turnedBack_15 : decode cX0_turnedBack 15 = .ok (.istore_n 1, 1) := by decide +kernel
theorem dX0_turnedBack_16 : decode cX0_turnedBack 16 = .ok (.aload_n 0, 1) := by decide +kernel
theorem dX0_turnedBack_17 : decode cX0_turnedBack 17 = .ok (.aload_n 0, 1) := by decide +kernel
theorem dX0_turnedBack_18 : decode cX0_turnedBack 18 = .ok (.getfield 15, 3) := by decide +kernel
theorem dX0_turnedBack_21 : decode cX0_turnedBack 21 = .ok (.lconst 0, 1) := by decide +kernel
theorem dX0_turnedBack_22 : decode cX0_turnedBack 22 = .ok (.lcmp, 1) := by decide +kernel
theorem dX0_turnedBack_23 : decode cX0_turnedBack 23 = .ok (.ifCond .le 7, 3) := by decide +kernel
theorem dX0_turnedBack_26 : decode cX0_turnedBack 26 = .ok (.iconst 1, 1) := by decide +kernel
theorem dX0_turnedBack_27 : decode cX0_turnedBack 27 = .ok (.goto 4, 3) := by decide +kernel
theorem dX0_turnedBack_30 : decode cX0_turnedBack 30 = .ok (.iconst (-1), 1) := by decide +kernel
theorem dX0_turnedBack_31 : decode cX0_turnedBack 31 = .ok (.putfield 31, 3) := by decide +kernel
theorem dX0_turnedBack_34 : decode cX0_turnedBack 34 = .ok (.iload_n 1, 1) := by decide +kernel
theorem dX0_turnedBack_35 : decode cX0_turnedBack 35 = .ok (.aload_n 0, 1) := by decide +kernel
theorem dX0_turnedBack_36 : decode cX0_turnedBack 36 = .ok (.getfield 31, 3) := by decide +kernel
theorem dX0_turnedBack_39 : decode cX0_turnedBack 39 = .ok (.ineg, 1) := by decide +kernel
theorem dX0_turnedBack_40 : decode cX0_turnedBack 40 = .ok (.if_icmp .ne 7, 3) := by decide +kernel
theorem dX0_turnedBack_43 : decode cX0_turnedBack 43 = .ok (.iconst 1, 1) := by decide +kernel
theorem dX0_turnedBack_44 : decode cX0_turnedBack 44 = .ok (.goto 4, 3) := by decide +kernel
theorem dX0_turnedBack_47 : decode cX0_turnedBack 47 = .ok (.iconst 0, 1) := by decide +kernel
theorem dX0_turnedBack_48 : decode cX0_turnedBack 48 = .ok (.ireturn, 1) := by decide +kernel
theorem dX0_passedMiddle_0 : decode cX0_passedMiddle 0 = .ok (.aload_n 0, 1) := by decide +kernel
theorem dX0_passedMiddle_1 : decode cX0_passedMiddle 1 = .ok (.getfield 9, 3) := by decide +kernel
theorem dX0_passedMiddle_4 : decode cX0_passedMiddle 4 = .ok (.lconst 0, 1) := by decide +kernel
theorem dX0_passedMiddle_5 : decode cX0_passedMiddle 5 = .ok (.lcmp, 1) := by decide +kernel
theorem dX0_passedMiddle_6 : decode cX0_passedMiddle 6 = .ok (.ifCond .eq 33, 3) := by decide +kernel
theorem dX0_passedMiddle_9 : decode cX0_passedMiddle 9 = .ok (.aload_n 0, 1) := by decide +kernel
theorem dX0_passedMiddle_10 : decode cX0_passedMiddle 10 = .ok (.getfield 9, 3) := by decide +kernel
theorem dX0_passedMiddle_13 : decode cX0_passedMiddle 13 = .ok (.lconst 0, 1) := by decide +kernel
theorem dX0_passedMiddle_14 : decode cX0_passedMiddle 14 = .ok (.lcmp, 1) := by decide +kernel
theorem dX0_passedMiddle_15 : decode cX0_passedMiddle 15 = .ok (.ifCond .le 9, 3) := by decide +kernel
theorem dX0_passedMiddle_18 : decode cX0_passedMiddle 18 = .ok (.lload_n 1, 1) := by decide +kernel
theorem dX0_passedMiddle_19 : decode cX0_passedMiddle 19 = .ok (.lconst 0, 1) := by decide +kernel
theorem dX0_passedMiddle_20 : decode cX0_passedMiddle 20 = .ok (.lcmp, 1) := by decide +kernel
theorem dX0_passedMiddle_21 : decode cX0_passedMiddle 21 = .ok (.ifCond .lt 18, 3) := by decide +kernel
theorem dX0_passedMiddle_24 : decode cX0_passedMiddle 24 = .ok (.aload_n 0, 1) := by decide +kernel
theorem dX0_passedMiddle_25 : decode cX0_passedMiddle 25 = .ok (.getfield 9, 3) := by decide +kernel
theorem dX0_passedMiddle_28 : decode cX0_passedMiddle 28 = .ok (.lconst 0, 1) := by decide +kernel
theorem dX0_passedMiddle_29 : decode cX0_passedMiddle 29 = .ok (.lcmp, 1) := by decide +kernel
theorem dX0_passedMiddle_30 : decode cX0_passedMiddle 30 = .ok (.ifCond .ge 13, 3) := by decide +kernel
theorem dX0_passedMiddle_33 : decode cX0_passedMiddle 33 = .ok (.lload_n 1, 1) := by decide +kernel
theorem dX0_passedMiddle_34 : decode cX0_passedMiddle 34 = .ok (.lconst 0, 1) := by decide +kernel
theorem dX0_passedMiddle_35 : decode cX0_passedMiddle 35 = .ok (.lcmp, 1) := by decide +kernel
theorem dX0_passedMiddle_36 : decode cX0_passedMiddle 36 = .ok (.ifCond .le 7, 3) := by decide +kernel
theorem dX0_passedMiddle_39 : decode cX0_passedMiddle 39 = .ok (.iconst 1, 1) := by decide +kernel
theorem dX0_passedMiddle_40 : decode cX0_passedMiddle 40 = .ok (.goto 4, 3) := by decide +kernel
theorem dX0_passedMiddle_43 : decode cX0_passedMiddle 43 = .ok (.iconst 0, 1) := by decide +kernel
theorem dX0_passedMiddle_44 : decode cX0_passedMiddle 44 = .ok (.ireturn, 1) := by decide +kernel
theorem dX0_length_0 : decode cX0_length 0 = .ok (.aload_n 1, 1) := by decide +kernel
theorem dX0_length_1 : decode cX0_length 1 = .ok (.iconst 0, 1) := by decide +kernel
theorem dX0_length_2 : decode cX0_length 2 = .ok (.iaload, 1) := by decide +kernel
theorem dX0_length_3 : decode cX0_length 3 = .ok (.i2l, 1) := by decide +kernel
theorem dX0_length_4 : decode cX0_length 4 = .ok (.aload_n 1, 1) := by decide +kernel
theorem dX0_length_5 : decode cX0_length 5 = .ok (.iconst 3, 1) := by decide +kernel
theorem dX0_length_6 : decode cX0_length 6 = .ok (.iaload, 1) := by decide +kernel
theorem dX0_length_7 : decode cX0_length 7 = .ok (.i2l, 1) := by decide +kernel
theorem dX0_length_8 : decode cX0_length 8 = .ok (.aload_n 0, 1) := by decide +kernel
theorem dX0_length_9 : decode cX0_length 9 = .ok (.getfield 18, 3) := by decide +kernel
theorem dX0_length_12 : decode cX0_length 12 = .ok (.i2l, 1) := by decide +kernel
theorem dX0_length_13 : decode cX0_length 13 = .ok (.lmul, 1) := by decide +kernel
theorem dX0_length_14 : decode cX0_length 14 = .ok (.lsub, 1) := by decide +kernel
theorem dX0_length_15 : decode cX0_length 15 = .ok (.lreturn, 1) := by decide +kernel
theorem dX0_landing_0 : decode cX0_landing 0 = .ok (.aload_n 0, 1) := by decide +kernel
theorem dX0_landing_1 : decode cX0_landing 1 = .ok (.aload_n 1, 1) := by decide +kernel
theorem dX0_landing_2 : decode cX0_landing 2 = .ok (.invokevirtual 92, 3) := by decide +kernel
theorem dX0_landing_5 : decode cX0_landing 5 = .ok (.lstore_n 2, 1) := by decide +kernel
theorem dX0_landing_6 : decode cX0_landing 6 = .ok (.aload_n 0, 1) := by decide +kernel
theorem dX0_landing_7 : decode cX0_landing 7 = .ok (.getfield 9, 3) := by decide +kernel
theorem dX0_landing_10 : decode cX0_landing 10 = .ok (.ldc2_w 116, 3) := by decide +kernel
theorem dX0_landing_13 : decode cX0_landing 13 = .ok (.ldiv, 1) := by decide +kernel
theorem dX0_landing_14 : decode cX0_landing 14 = .ok (.lstore 4, 2) := by decide +kernel
theorem dX0_landing_16 : decode cX0_landing 16 = .ok (.ldc2_w 124, 3) := by decide +kernel
theorem dX0_landing_19 : decode cX0_landing 19 = .ok (.lload_n 2, 1) := by decide +kernel
theorem dX0_landing_20 : decode cX0_landing 20 = .ok (.lload 4, 2) := by decide +kernel
theorem dX0_landing_22 : decode cX0_landing 22 = .ok (.lmul, 1) := by decide +kernel
theorem dX0_landing_23 : decode cX0_landing 23 = .ok (.lload 4, 2) := by decide +kernel
theorem dX0_landing_25 : decode cX0_landing 25 = .ok (.lmul, 1) := by decide +kernel
theorem dX0_landing_26 : decode cX0_landing 26 = .ok (.ldc2_w 126, 3) := by decide +kernel
theorem dX0_landing_29 : decode cX0_landing 29 = .ok (.ldiv, 1) := by decide +kernel
theorem dX0_landing_30 : decode cX0_landing 30 = .ok (.ladd, 1) := by decide +kernel
theorem dX0_landing_31 : decode cX0_landing 31 = .ok (.lstore 6, 2) := by decide +kernel
theorem dX0_landing_33 : decode cX0_landing 33 = .ok (.aload_n 0, 1) := by decide +kernel
theorem dX0_landing_34 : decode cX0_landing 34 = .ok (.getfield 9, 3) := by decide +kernel
theorem dX0_landing_37 : decode cX0_landing 37 = .ok (.aload_n 0, 1) := by decide +kernel
theorem dX0_landing_38 : decode cX0_landing 38 = .ok (.getfield 15, 3) := by decide +kernel
theorem dX0_landing_41 : decode cX0_landing 41 = .ok (.lload 6, 2) := by decide +kernel
theorem dX0_landing_43 : decode cX0_landing 43 = .ok (.aload_n 1, 1) := by decide +kernel
theorem dX0_landing_44 : decode cX0_landing 44 = .ok (.iconst 1, 1) := by decide +kernel
theorem dX0_landing_45 : decode cX0_landing 45 = .ok (.iaload, 1) := by decide +kernel
theorem dX0_landing_46 : decode cX0_landing 46 = .ok (.i2l, 1) := by decide +kernel
theorem dX0_landing_47 : decode cX0_landing 47 = .ok (.invokestatic 128, 3) := by decide +kernel
theorem dX0_landing_50 : decode cX0_landing 50 = .ok (.lmul, 1) := by decide +kernel
theorem dX0_landing_51 : decode cX0_landing 51 = .ok (.ladd, 1) := by decide +kernel
theorem dX0_landing_52 : decode cX0_landing 52 = .ok (.lload_n 2, 1) := by decide +kernel
theorem dX0_landing_53 : decode cX0_landing 53 = .ok (.lmul, 1) := by decide +kernel
theorem dX0_landing_54 : decode cX0_landing 54 = .ok (.ldc2_w 116, 3) := by decide +kernel
theorem dX0_landing_57 : decode cX0_landing 57 = .ok (.ldiv, 1) := by decide +kernel
theorem dX0_landing_58 : decode cX0_landing 58 = .ok (.l2i, 1) := by decide +kernel
theorem dX0_landing_59 : decode cX0_landing 59 = .ok (.ireturn, 1) := by decide +kernel
theorem dX0_fall_0 : decode cX0_fall 0 = .ok (.lconst 0, 1) := by decide +kernel
theorem dX0_fall_1 : decode cX0_fall 1 = .ok (.lstore 4, 2) := by decide +kernel
theorem dX0_fall_3 : decode cX0_fall 3 = .ok (.lload 4, 2) := by decide +kernel
theorem dX0_fall_5 : decode cX0_fall 5 = .ok (.ldc2_w 116, 3) := by decide +kernel
theorem dX0_fall_8 : decode cX0_fall 8 = .ok (.lcmp, 1) := by decide +kernel
theorem dX0_fall_9 : decode cX0_fall 9 = .ok (.ifCond .ge 28, 3) := by decide +kernel
theorem dX0_fall_12 : decode cX0_fall 12 = .ok (.lload_n 2, 1) := by decide +kernel
theorem dX0_fall_13 : decode cX0_fall 13 = .ok (.lload 4, 2) := by decide +kernel
theorem dX0_fall_15 : decode cX0_fall 15 = .ok (.lmul, 1) := by decide +kernel
theorem dX0_fall_16 : decode cX0_fall 16 = .ok (.lload 4, 2) := by decide +kernel
theorem dX0_fall_18 : decode cX0_fall 18 = .ok (.lmul, 1) := by decide +kernel
theorem dX0_fall_19 : decode cX0_fall 19 = .ok (.ldc2_w 131, 3) := by decide +kernel
theorem dX0_fall_22 : decode cX0_fall 22 = .ok (.lload_n 0, 1) := by decide +kernel
theorem dX0_fall_23 : decode cX0_fall 23 = .ok (.lmul, 1) := by decide +kernel
theorem dX0_fall_24 : decode cX0_fall 24 = .ok (.lcmp, 1) := by decide +kernel
theorem dX0_fall_25 : decode cX0_fall 25 = .ok (.ifCond .ge 12, 3) := by decide +kernel
theorem dX0_fall_28 : decode cX0_fall 28 = .ok (.lload 4, 2) := by decide +kernel
theorem dX0_fall_30 : decode cX0_fall 30 = .ok (.lconst 1, 1) := by decide +kernel
theorem dX0_fall_31 : decode cX0_fall 31 = .ok (.ladd, 1) := by decide +kernel
theorem dX0_fall_32 : decode cX0_fall 32 = .ok (.lstore 4, 2) := by decide +kernel
theorem dX0_fall_34 : decode cX0_fall 34 = .ok (.goto (-31), 3) := by decide +kernel
theorem dX0_fall_37 : decode cX0_fall 37 = .ok (.lload 4, 2) := by decide +kernel
theorem dX0_fall_39 : decode cX0_fall 39 = .ok (.lreturn, 1) := by decide +kernel
theorem dX0_valueTold_0 : decode cX0_valueTold 0 = .ok (.iload_n 1, 1) := by decide +kernel
theorem dX0_valueTold_1 : decode cX0_valueTold 1 = .ok (.tableswitch 122 0 11 #[63, 69, 75, 80, 85, 90, 122, 95, 100, 105, 110, 116], 63) := by decide +kernel
theorem dX0_valueTold_64 : decode cX0_valueTold 64 = .ok (.aload_n 0, 1) := by decide +kernel
theorem dX0_valueTold_65 : decode cX0_valueTold 65 = .ok (.getfield 9, 3) := by decide +kernel
theorem dX0_valueTold_68 : decode cX0_valueTold 68 = .ok (.l2i, 1) := by decide +kernel
theorem dX0_valueTold_69 : decode cX0_valueTold 69 = .ok (.ireturn, 1) := by decide +kernel
theorem dX0_valueTold_70 : decode cX0_valueTold 70 = .ok (.aload_n 0, 1) := by decide +kernel
theorem dX0_valueTold_71 : decode cX0_valueTold 71 = .ok (.getfield 15, 3) := by decide +kernel
theorem dX0_valueTold_74 : decode cX0_valueTold 74 = .ok (.l2i, 1) := by decide +kernel
theorem dX0_valueTold_75 : decode cX0_valueTold 75 = .ok (.ireturn, 1) := by decide +kernel
theorem dX0_valueTold_76 : decode cX0_valueTold 76 = .ok (.aload_n 0, 1) := by decide +kernel
theorem dX0_valueTold_77 : decode cX0_valueTold 77 = .ok (.getfield 18, 3) := by decide +kernel
theorem dX0_valueTold_80 : decode cX0_valueTold 80 = .ok (.ireturn, 1) := by decide +kernel
theorem dX0_valueTold_81 : decode cX0_valueTold 81 = .ok (.aload_n 0, 1) := by decide +kernel
theorem dX0_valueTold_82 : decode cX0_valueTold 82 = .ok (.getfield 22, 3) := by decide +kernel
theorem dX0_valueTold_85 : decode cX0_valueTold 85 = .ok (.ireturn, 1) := by decide +kernel
theorem dX0_valueTold_86 : decode cX0_valueTold 86 = .ok (.aload_n 0, 1) := by decide +kernel
theorem dX0_valueTold_87 : decode cX0_valueTold 87 = .ok (.getfield 25, 3) := by decide +kernel
theorem dX0_valueTold_90 : decode cX0_valueTold 90 = .ok (.ireturn, 1) := by decide +kernel
theorem dX0_valueTold_91 : decode cX0_valueTold 91 = .ok (.aload_n 0, 1) := by decide +kernel
theorem dX0_valueTold_92 : decode cX0_valueTold 92 = .ok (.getfield 28, 3) := by decide +kernel
theorem dX0_valueTold_95 : decode cX0_valueTold 95 = .ok (.ireturn, 1) := by decide +kernel
theorem dX0_valueTold_96 : decode cX0_valueTold 96 = .ok (.aload_n 0, 1) := by decide +kernel
theorem dX0_valueTold_97 : decode cX0_valueTold 97 = .ok (.getfield 34, 3) := by decide +kernel
theorem dX0_valueTold_100 : decode cX0_valueTold 100 = .ok (.ireturn, 1) := by decide +kernel
theorem dX0_valueTold_101 : decode cX0_valueTold 101 = .ok (.aload_n 0, 1) := by decide +kernel
theorem dX0_valueTold_102 : decode cX0_valueTold 102 = .ok (.getfield 37, 3) := by decide +kernel
theorem dX0_valueTold_105 : decode cX0_valueTold 105 = .ok (.ireturn, 1) := by decide +kernel
theorem dX0_valueTold_106 : decode cX0_valueTold 106 = .ok (.aload_n 0, 1) := by decide +kernel
theorem dX0_valueTold_107 : decode cX0_valueTold 107 = .ok (.getfield 40, 3) := by decide +kernel
theorem dX0_valueTold_110 : decode cX0_valueTold 110 = .ok (.ireturn, 1) := by decide +kernel
theorem dX0_valueTold_111 : decode cX0_valueTold 111 = .ok (.aload_n 0, 1) := by decide +kernel
theorem dX0_valueTold_112 : decode cX0_valueTold 112 = .ok (.getfield 43, 3) := by decide +kernel
theorem dX0_valueTold_115 : decode cX0_valueTold 115 = .ok (.l2i, 1) := by decide +kernel
theorem dX0_valueTold_116 : decode cX0_valueTold 116 = .ok (.ireturn, 1) := by decide +kernel
theorem dX0_valueTold_117 : decode cX0_valueTold 117 = .ok (.aload_n 0, 1) := by decide +kernel
theorem dX0_valueTold_118 : decode cX0_valueTold 118 = .ok (.getfield 46, 3) := by decide +kernel
theorem dX0_valueTold_121 : decode cX0_valueTold 121 = .ok (.l2i, 1) := by decide +kernel
theorem dX0_valueTold_122 : decode cX0_valueTold 122 = .ok (.ireturn, 1) := by decide +kernel
theorem dX0_valueTold_123 : decode cX0_valueTold 123 = .ok (.iconst 0, 1) := by decide +kernel
theorem dX0_valueTold_124 : decode cX0_valueTold 124 = .ok (.ireturn, 1) := by decide +kernel
theorem dX0_divided_0 : decode cX0_divided 0 = .ok (.lload_n 2, 1) := by decide +kernel
theorem dX0_divided_1 : decode cX0_divided 1 = .ok (.lconst 0, 1) := by decide +kernel
theorem dX0_divided_2 : decode cX0_divided 2 = .ok (.lcmp, 1) := by decide +kernel
theorem dX0_divided_3 : decode cX0_divided 3 = .ok (.ifCond .ne 7, 3) := by decide +kernel
theorem dX0_divided_6 : decode cX0_divided 6 = .ok (.lconst 0, 1) := by decide +kernel
theorem dX0_divided_7 : decode cX0_divided 7 = .ok (.goto 6, 3) := by decide +kernel
theorem dX0_divided_10 : decode cX0_divided 10 = .ok (.lload_n 0, 1) := by decide +kernel
theorem dX0_divided_11 : decode cX0_divided 11 = .ok (.lload_n 2, 1) := by decide +kernel
theorem dX0_divided_12 : decode cX0_divided 12 = .ok (.ldiv, 1) := by decide +kernel
theorem dX0_divided_13 : decode cX0_divided 13 = .ok (.lreturn, 1) := by decide +kernel
theorem dX1_init_0 : decode cX1_init 0 = .ok (.aload_n 0, 1) := by decide +kernel
theorem dX1_init_1 : decode cX1_init 1 = .ok (.invokespecial 3, 3) := by decide +kernel
theorem dX1_init_4 : decode cX1_init 4 = .ok (.aload_n 0, 1) := by decide +kernel
theorem dX1_init_5 : decode cX1_init 5 = .ok (.bipush 60, 2) := by decide +kernel
theorem dX1_init_7 : decode cX1_init 7 = .ok (.newarray .int, 2) := by decide +kernel
theorem dX1_init_9 : decode cX1_init 9 = .ok (.putfield 9, 3) := by decide +kernel
theorem dX1_init_12 : decode cX1_init 12 = .ok (.aload_n 0, 1) := by decide +kernel
theorem dX1_init_13 : decode cX1_init 13 = .ok (.iconst 0, 1) := by decide +kernel
theorem dX1_init_14 : decode cX1_init 14 = .ok (.putfield 15, 3) := by decide +kernel
theorem dX1_init_17 : decode cX1_init 17 = .ok (.aload_n 0, 1) := by decide +kernel
theorem dX1_init_18 : decode cX1_init 18 = .ok (.iconst 1, 1) := by decide +kernel
theorem dX1_init_19 : decode cX1_init 19 = .ok (.putfield 19, 3) := by decide +kernel
theorem dX1_init_22 : decode cX1_init 22 = .ok (.aload_n 0, 1) := by decide +kernel
theorem dX1_init_23 : decode cX1_init 23 = .ok (.bipush 60, 2) := by decide +kernel
theorem dX1_init_25 : decode cX1_init 25 = .ok (.newarray .long, 2) := by decide +kernel
theorem dX1_init_27 : decode cX1_init 27 = .ok (.putfield 22, 3) := by decide +kernel
theorem dX1_init_30 : decode cX1_init 30 = .ok (.aload_n 0, 1) := by decide +kernel
theorem dX1_init_31 : decode cX1_init 31 = .ok (.iconst 0, 1) := by decide +kernel
theorem dX1_init_32 : decode cX1_init 32 = .ok (.putfield 26, 3) := by decide +kernel
theorem dX1_init_35 : decode cX1_init 35 = .ok (.return_, 1) := by decide +kernel
theorem dX1_clear_0 : decode cX1_clear 0 = .ok (.aload_n 0, 1) := by decide +kernel
theorem dX1_clear_1 : decode cX1_clear 1 = .ok (.iconst 0, 1) := by decide +kernel
theorem dX1_clear_2 : decode cX1_clear 2 = .ok (.putfield 15, 3) := by decide +kernel
theorem dX1_clear_5 : decode cX1_clear 5 = .ok (.aload_n 0, 1) := by decide +kernel
theorem dX1_clear_6 : decode cX1_clear 6 = .ok (.iconst (-1), 1) := by decide +kernel
theorem dX1_clear_7 : decode cX1_clear 7 = .ok (.putfield 19, 3) := by decide +kernel
theorem dX1_clear_10 : decode cX1_clear 10 = .ok (.return_, 1) := by decide +kernel
theorem dX1_addNumber_0 : decode cX1_addNumber 0 = .ok (.aload_n 0, 1) := by decide +kernel
theorem dX1_addNumber_1 : decode cX1_addNumber 1 = .ok (.iload_n 1, 1) := by decide +kernel
theorem dX1_addNumber_2 : decode cX1_addNumber 2 = .ok (.invokevirtual 29, 3) := by decide +kernel
theorem dX1_addNumber_5 : decode cX1_addNumber 5 = .ok (.return_, 1) := by decide +kernel
theorem dX1_addSign_0 : decode cX1_addSign 0 = .ok (.aload_n 0, 1) := by decide +kernel
theorem dX1_addSign_1 : decode cX1_addSign 1 = .ok (.iload_n 1, 1) := by decide +kernel
theorem dX1_addSign_2 : decode cX1_addSign 2 = .ok (.ineg, 1) := by decide +kernel
theorem dX1_addSign_3 : decode cX1_addSign 3 = .ok (.invokevirtual 29, 3) := by decide +kernel
theorem dX1_addSign_6 : decode cX1_addSign 6 = .ok (.return_, 1) := by decide +kernel
theorem dX1_add_0 : decode cX1_add 0 = .ok (.aload_n 0, 1) := by decide +kernel
theorem dX1_add_1 : decode cX1_add 1 = .ok (.getfield 15, 3) := by decide +kernel
theorem dX1_add_4 : decode cX1_add 4 = .ok (.bipush 60, 2) := by decide +kernel
theorem dX1_add_6 : decode cX1_add 6 = .ok (.if_icmp .ge 23, 3) := by decide +kernel
theorem dX1_add_9 : decode cX1_add 9 = .ok (.aload_n 0, 1) := by decide +kernel
theorem dX1_add_10 : decode cX1_add 10 = .ok (.getfield 9, 3) := by decide +kernel
theorem dX1_add_13 : decode cX1_add 13 = .ok (.aload_n 0, 1) := by decide +kernel
theorem dX1_add_14 : decode cX1_add 14 = .ok (.getfield 15, 3) := by decide +kernel
theorem dX1_add_17 : decode cX1_add 17 = .ok (.iload_n 1, 1) := by decide +kernel
theorem dX1_add_18 : decode cX1_add 18 = .ok (.iastore, 1) := by decide +kernel
theorem dX1_add_19 : decode cX1_add 19 = .ok (.aload_n 0, 1) := by decide +kernel
theorem dX1_add_20 : decode cX1_add 20 = .ok (.dup, 1) := by decide +kernel
theorem dX1_add_21 : decode cX1_add 21 = .ok (.getfield 15, 3) := by decide +kernel
theorem dX1_add_24 : decode cX1_add 24 = .ok (.iconst 1, 1) := by decide +kernel
theorem dX1_add_25 : decode cX1_add 25 = .ok (.iadd, 1) := by decide +kernel
theorem dX1_add_26 : decode cX1_add 26 = .ok (.putfield 15, 3) := by decide +kernel
theorem dX1_add_29 : decode cX1_add 29 = .ok (.return_, 1) := by decide +kernel
theorem dX1_wishOf_0 : decode cX1_wishOf 0 = .ok (.aload_n 0, 1) := by decide +kernel
theorem dX1_wishOf_1 : decode cX1_wishOf 1 = .ok (.getfield 19, 3) := by decide +kernel
theorem dX1_wishOf_4 : decode cX1_wishOf 4 = .ok (.iconst (-1), 1) := by decide +kernel
theorem dX1_wishOf_5 : decode cX1_wishOf 5 = .ok (.if_icmp .eq 8, 3) := by decide +kernel
theorem dX1_wishOf_8 : decode cX1_wishOf 8 = .ok (.aload_n 1, 1) := by decide +kernel
theorem dX1_wishOf_9 : decode cX1_wishOf 9 = .ok (.getfield 33, 3) := by decide +kernel
theorem dX1_wishOf_12 : decode cX1_wishOf 12 = .ok (.ireturn, 1) := by decide +kernel
theorem dX1_wishOf_13 : decode cX1_wishOf 13 = .ok (.lconst 0, 1) := by decide +kernel
theorem dX1_wishOf_14 : decode cX1_wishOf 14 = .ok (.ldc2_w 38, 3) := by decide +kernel
theorem dX1_wishOf_17 : decode cX1_wishOf 17 = .ok (.aload_n 0, 1) := by decide +kernel
theorem dX1_wishOf_18 : decode cX1_wishOf 18 = .ok (.aload_n 1, 1) := by decide +kernel
theorem dX1_wishOf_19 : decode cX1_wishOf 19 = .ok (.invokevirtual 40, 3) := by decide +kernel
theorem dX1_wishOf_22 : decode cX1_wishOf 22 = .ok (.invokestatic 44, 3) := by decide +kernel
theorem dX1_wishOf_25 : decode cX1_wishOf 25 = .ok (.invokestatic 50, 3) := by decide +kernel
theorem dX1_wishOf_28 : decode cX1_wishOf 28 = .ok (.l2i, 1) := by decide +kernel
theorem dX1_wishOf_29 : decode cX1_wishOf 29 = .ok (.ireturn, 1) := by decide +kernel
theorem dX1_valueFor_0 : decode cX1_valueFor 0 = .ok (.aload_n 0, 1) := by decide +kernel
theorem dX1_valueFor_1 : decode cX1_valueFor 1 = .ok (.iconst 0, 1) := by decide +kernel
theorem dX1_valueFor_2 : decode cX1_valueFor 2 = .ok (.putfield 26, 3) := by decide +kernel
theorem dX1_valueFor_5 : decode cX1_valueFor 5 = .ok (.iconst 0, 1) := by decide +kernel
theorem dX1_valueFor_6 : decode cX1_valueFor 6 = .ok (.istore_n 2, 1) := by decide +kernel
theorem dX1_valueFor_7 : decode cX1_valueFor 7 = .ok (.iload_n 2, 1) := by decide +kernel
theorem dX1_valueFor_8 : decode cX1_valueFor 8 = .ok (.aload_n 0, 1) := by decide +kernel
theorem dX1_valueFor_9 : decode cX1_valueFor 9 = .ok (.getfield 15, 3) := by decide +kernel
theorem dX1_valueFor_12 : decode cX1_valueFor 12 = .ok (.if_icmp .ge 20, 3) := by decide +kernel
theorem dX1_valueFor_15 : decode cX1_valueFor 15 = .ok (.aload_n 0, 1) := by decide +kernel
theorem dX1_valueFor_16 : decode cX1_valueFor 16 = .ok (.aload_n 0, 1) := by decide +kernel
theorem dX1_valueFor_17 : decode cX1_valueFor 17 = .ok (.getfield 9, 3) := by decide +kernel
theorem dX1_valueFor_20 : decode cX1_valueFor 20 = .ok (.iload_n 2, 1) := by decide +kernel
theorem dX1_valueFor_21 : decode cX1_valueFor 21 = .ok (.iaload, 1) := by decide +kernel
theorem dX1_valueFor_22 : decode cX1_valueFor 22 = .ok (.aload_n 1, 1) := by decide +kernel
theorem dX1_valueFor_23 : decode cX1_valueFor 23 = .ok (.invokevirtual 53, 3) := by decide +kernel
theorem dX1_valueFor_26 : decode cX1_valueFor 26 = .ok (.iinc 2 1, 3) := by decide +kernel
theorem dX1_valueFor_29 : decode cX1_valueFor 29 = .ok (.goto (-22), 3) := by decide +kernel
theorem dX1_valueFor_32 : decode cX1_valueFor 32 = .ok (.aload_n 0, 1) := by decide +kernel
theorem dX1_valueFor_33 : decode cX1_valueFor 33 = .ok (.invokevirtual 57, 3) := by decide +kernel
theorem dX1_valueFor_36 : decode cX1_valueFor 36 = .ok (.lreturn, 1) := by decide +kernel
theorem dX1_work_0 : decode cX1_work 0 = .ok (.iload_n 1, 1) := by decide +kernel
theorem dX1_work_1 : decode cX1_work 1 = .ok (.ineg, 1) := by decide +kernel
theorem dX1_work_2 : decode cX1_work 2 = .ok (.istore_n 3, 1) := by decide +kernel
theorem dX1_work_3 : decode cX1_work 3 = .ok (.iload_n 3, 1) := by decide +kernel
theorem dX1_work_4 : decode cX1_work 4 = .ok (.ifCond .gt 12, 3) := by decide +kernel
theorem dX1_work_7 : decode cX1_work 7 = .ok (.aload_n 0, 1) := by decide +kernel
theorem dX1_work_8 : decode cX1_work 8 = .ok (.iload_n 1, 1) := by decide +kernel
theorem dX1_work_9 : decode cX1_work 9 = .ok (.i2l, 1) := by decide +kernel
theorem dX1_work_10 : decode cX1_work 10 = .ok (.invokevirtual 61, 3) := by decide +kernel
theorem dX1_work_13 : decode cX1_work 13 = .ok (.goto 99, 3) := by decide +kernel
theorem dX1_work_16 : decode cX1_work 16 = .ok (.iload_n 3, 1) := by decide +kernel
theorem dX1_work_17 : decode cX1_work 17 = .ok (.bipush 97, 2) := by decide +kernel
theorem dX1_work_19 : decode cX1_work 19 = .ok (.if_icmp .lt 21, 3) := by decide +kernel
theorem dX1_work_22 : decode cX1_work 22 = .ok (.iload_n 3, 1) := by decide +kernel
theorem dX1_work_23 : decode cX1_work 23 = .ok (.bipush 122, 2) := by decide +kernel
theorem dX1_work_25 : decode cX1_work 25 = .ok (.if_icmp .gt 15, 3) := by decide +kernel
theorem dX1_work_28 : decode cX1_work 28 = .ok (.aload_n 0, 1) := by decide +kernel
theorem dX1_work_29 : decode cX1_work 29 = .ok (.iload_n 3, 1) := by decide +kernel
theorem dX1_work_30 : decode cX1_work 30 = .ok (.aload_n 2, 1) := by decide +kernel
theorem dX1_work_31 : decode cX1_work 31 = .ok (.invokestatic 65, 3) := by decide +kernel
theorem dX1_work_34 : decode cX1_work 34 = .ok (.invokevirtual 61, 3) := by decide +kernel
theorem dX1_work_37 : decode cX1_work 37 = .ok (.goto 75, 3) := by decide +kernel
theorem dX1_work_40 : decode cX1_work 40 = .ok (.iload_n 3, 1) := by decide +kernel
theorem dX1_work_41 : decode cX1_work 41 = .ok (.bipush 33, 2) := by decide +kernel
theorem dX1_work_43 : decode cX1_work 43 = .ok (.if_icmp .ne 27, 3) := by decide +kernel
theorem dX1_work_46 : decode cX1_work 46 = .ok (.aload_n 0, 1) := by decide +kernel
theorem dX1_work_47 : decode cX1_work 47 = .ok (.aload_n 0, 1) := by decide +kernel
theorem dX1_work_48 : decode cX1_work 48 = .ok (.invokevirtual 57, 3) := by decide +kernel
theorem dX1_work_51 : decode cX1_work 51 = .ok (.lconst 0, 1) := by decide +kernel
theorem dX1_work_52 : decode cX1_work 52 = .ok (.lcmp, 1) := by decide +kernel
theorem dX1_work_53 : decode cX1_work 53 = .ok (.ifCond .ne 7, 3) := by decide +kernel
theorem dX1_work_56 : decode cX1_work 56 = .ok (.iconst 1, 1) := by decide +kernel
theorem dX1_work_57 : decode cX1_work 57 = .ok (.goto 4, 3) := by decide +kernel
theorem dX1_work_60 : decode cX1_work 60 = .ok (.iconst 0, 1) := by decide +kernel
theorem dX1_work_61 : decode cX1_work 61 = .ok (.invokestatic 69, 3) := by decide +kernel
theorem dX1_work_64 : decode cX1_work 64 = .ok (.invokevirtual 61, 3) := by decide +kernel
theorem dX1_work_67 : decode cX1_work 67 = .ok (.goto 45, 3) := by decide +kernel
theorem dX1_work_70 : decode cX1_work 70 = .ok (.iload_n 3, 1) := by decide +kernel
theorem dX1_work_71 : decode cX1_work 71 = .ok (.bipush 126, 2) := by decide +kernel
theorem dX1_work_73 : decode cX1_work 73 = .ok (.if_icmp .ne 15, 3) := by decide +kernel
theorem dX1_work_76 : decode cX1_work 76 = .ok (.aload_n 0, 1) := by decide +kernel
theorem dX1_work_77 : decode cX1_work 77 = .ok (.aload_n 0, 1) := by decide +kernel
theorem dX1_work_78 : decode cX1_work 78 = .ok (.invokevirtual 57, 3) := by decide +kernel
theorem dX1_work_81 : decode cX1_work 81 = .ok (.lneg, 1) := by decide +kernel
theorem dX1_work_82 : decode cX1_work 82 = .ok (.invokevirtual 61, 3) := by decide +kernel
theorem dX1_work_85 : decode cX1_work 85 = .ok (.goto 27, 3) := by decide +kernel
theorem dX1_work_88 : decode cX1_work 88 = .ok (.aload_n 0, 1) := by decide +kernel
theorem dX1_work_89 : decode cX1_work 89 = .ok (.invokevirtual 57, 3) := by decide +kernel
theorem dX1_work_92 : decode cX1_work 92 = .ok (.lstore 4, 2) := by decide +kernel
theorem dX1_work_94 : decode cX1_work 94 = .ok (.aload_n 0, 1) := by decide +kernel
theorem dX1_work_95 : decode cX1_work 95 = .ok (.invokevirtual 57, 3) := by decide +kernel
theorem dX1_work_98 : decode cX1_work 98 = .ok (.lstore 6, 2) := by decide +kernel
theorem dX1_work_100 : decode cX1_work 100 = .ok (.aload_n 0, 1) := by decide +kernel
theorem dX1_work_101 : decode cX1_work 101 = .ok (.lload 6, 2) := by decide +kernel
theorem dX1_work_103 : decode cX1_work 103 = .ok (.iload_n 3, 1) := by decide +kernel
theorem dX1_work_104 : decode cX1_work 104 = .ok (.lload 4, 2) := by decide +kernel
theorem dX1_work_106 : decode cX1_work 106 = .ok (.invokestatic 73, 3) := by decide +kernel
theorem dX1_work_109 : decode cX1_work 109 = .ok (.invokevirtual 61, 3) := by decide +kernel
theorem dX1_work_112 : decode cX1_work 112 = .ok (.return_, 1) := by decide +kernel
theorem dX1_lay_0 : decode cX1_lay 0 = .ok (.aload_n 0, 1) := by decide +kernel
theorem dX1_lay_1 : decode cX1_lay 1 = .ok (.getfield 26, 3) := by decide +kernel
theorem dX1_lay_4 : decode cX1_lay 4 = .ok (.bipush 60, 2) := by decide +kernel
theorem dX1_lay_6 : decode cX1_lay 6 = .ok (.if_icmp .ge 23, 3) := by decide +kernel
theorem dX1_lay_9 : decode cX1_lay 9 = .ok (.aload_n 0, 1) := by decide +kernel
theorem dX1_lay_10 : decode cX1_lay 10 = .ok (.getfield 22, 3) := by decide +kernel
theorem dX1_lay_13 : decode cX1_lay 13 = .ok (.aload_n 0, 1) := by decide +kernel
theorem dX1_lay_14 : decode cX1_lay 14 = .ok (.getfield 26, 3) := by decide +kernel
theorem dX1_lay_17 : decode cX1_lay 17 = .ok (.lload_n 1, 1) := by decide +kernel
theorem dX1_lay_18 : decode cX1_lay 18 = .ok (.lastore, 1) := by decide +kernel
theorem dX1_lay_19 : decode cX1_lay 19 = .ok (.aload_n 0, 1) := by decide +kernel
theorem dX1_lay_20 : decode cX1_lay 20 = .ok (.dup, 1) := by decide +kernel
theorem dX1_lay_21 : decode cX1_lay 21 = .ok (.getfield 26, 3) := by decide +kernel
theorem dX1_lay_24 : decode cX1_lay 24 = .ok (.iconst 1, 1) := by decide +kernel
theorem dX1_lay_25 : decode cX1_lay 25 = .ok (.iadd, 1) := by decide +kernel
theorem dX1_lay_26 : decode cX1_lay 26 = .ok (.putfield 26, 3) := by decide +kernel
theorem dX1_lay_29 : decode cX1_lay 29 = .ok (.return_, 1) := by decide +kernel
theorem dX1_take_0 : decode cX1_take 0 = .ok (.aload_n 0, 1) := by decide +kernel
theorem dX1_take_1 : decode cX1_take 1 = .ok (.getfield 26, 3) := by decide +kernel
theorem dX1_take_4 : decode cX1_take 4 = .ok (.ifCond .gt 5, 3) := by decide +kernel
theorem dX1_take_7 : decode cX1_take 7 = .ok (.lconst 0, 1) := by decide +kernel
theorem dX1_take_8 : decode cX1_take 8 = .ok (.lreturn, 1) := by decide +kernel
theorem dX1_take_9 : decode cX1_take 9 = .ok (.aload_n 0, 1) := by decide +kernel
theorem dX1_take_10 : decode cX1_take 10 = .ok (.dup, 1) := by decide +kernel
theorem dX1_take_11 : decode cX1_take 11 = .ok (.getfield 26, 3) := by decide +kernel
theorem dX1_take_14 : decode cX1_take 14 = .ok (.iconst 1, 1) := by decide +kernel
theorem dX1_take_15 : decode cX1_take 15 = .ok (.isub, 1) := by decide +kernel
theorem dX1_take_16 : decode cX1_take 16 = .ok (.putfield 26, 3) := by decide +kernel
theorem dX1_take_19 : decode cX1_take 19 = .ok (.aload_n 0, 1) := by decide +kernel
theorem dX1_take_20 : decode cX1_take 20 = .ok (.getfield 22, 3) := by decide +kernel
theorem dX1_take_23 : decode cX1_take 23 = .ok (.aload_n 0, 1) := by decide +kernel
theorem dX1_take_24 : decode cX1_take 24 = .ok (.getfield 26, 3) := by decide +kernel
theorem dX1_take_27 : decode cX1_take 27 = .ok (.laload, 1) := by decide +kernel
theorem dX1_take_28 : decode cX1_take 28 = .ok (.lreturn, 1) := by decide +kernel
theorem dX1_letter_0 : decode cX1_letter 0 = .ok (.iload_n 0, 1) := by decide +kernel
theorem dX1_letter_1 : decode cX1_letter 1 = .ok (.lookupswitch 93 #[(97, 59), (104, 69), (107, 87), (116, 75), (117, 81), (118, 64)], 59) := by decide +kernel
theorem dX1_letter_60 : decode cX1_letter 60 = .ok (.aload_n 1, 1) := by decide +kernel
theorem dX1_letter_61 : decode cX1_letter 61 = .ok (.getfield 77, 3) := by decide +kernel
theorem dX1_letter_64 : decode cX1_letter 64 = .ok (.lreturn, 1) := by decide +kernel
theorem dX1_letter_65 : decode cX1_letter 65 = .ok (.aload_n 1, 1) := by decide +kernel
theorem dX1_letter_66 : decode cX1_letter 66 = .ok (.getfield 81, 3) := by decide +kernel
theorem dX1_letter_69 : decode cX1_letter 69 = .ok (.lreturn, 1) := by decide +kernel
theorem dX1_letter_70 : decode cX1_letter 70 = .ok (.aload_n 1, 1) := by decide +kernel
theorem dX1_letter_71 : decode cX1_letter 71 = .ok (.getfield 33, 3) := by decide +kernel
theorem dX1_letter_74 : decode cX1_letter 74 = .ok (.i2l, 1) := by decide +kernel
theorem dX1_letter_75 : decode cX1_letter 75 = .ok (.lreturn, 1) := by decide +kernel
theorem dX1_letter_76 : decode cX1_letter 76 = .ok (.aload_n 1, 1) := by decide +kernel
theorem dX1_letter_77 : decode cX1_letter 77 = .ok (.getfield 84, 3) := by decide +kernel
theorem dX1_letter_80 : decode cX1_letter 80 = .ok (.i2l, 1) := by decide +kernel
theorem dX1_letter_81 : decode cX1_letter 81 = .ok (.lreturn, 1) := by decide +kernel
theorem dX1_letter_82 : decode cX1_letter 82 = .ok (.aload_n 1, 1) := by decide +kernel
theorem dX1_letter_83 : decode cX1_letter 83 = .ok (.getfield 87, 3) := by decide +kernel
theorem dX1_letter_86 : decode cX1_letter 86 = .ok (.i2l, 1) := by decide +kernel
theorem dX1_letter_87 : decode cX1_letter 87 = .ok (.lreturn, 1) := by decide +kernel
theorem dX1_letter_88 : decode cX1_letter 88 = .ok (.aload_n 1, 1) := by decide +kernel
theorem dX1_letter_89 : decode cX1_letter 89 = .ok (.getfield 90, 3) := by decide +kernel
theorem dX1_letter_92 : decode cX1_letter 92 = .ok (.i2l, 1) := by decide +kernel
theorem dX1_letter_93 : decode cX1_letter 93 = .ok (.lreturn, 1) := by decide +kernel
theorem dX1_letter_94 : decode cX1_letter 94 = .ok (.lconst 0, 1) := by decide +kernel
theorem dX1_letter_95 : decode cX1_letter 95 = .ok (.lreturn, 1) := by decide +kernel
theorem dX1_joined_0 : decode cX1_joined 0 = .ok (.iload_n 2, 1) := by decide +kernel
theorem dX1_joined_1 : decode cX1_joined 1 = .ok (.lookupswitch 196 #[(38, 104), (42, 178), (43, 170), (45, 174), (47, 182), (60, 125), (61, 155), (62, 140), (124, 83)], 83) := by decide +kernel
theorem dX1_joined_84 : decode cX1_joined 84 = .ok (.lload_n 0, 1) := by decide +kernel
theorem dX1_joined_85 : decode cX1_joined 85 = .ok (.lconst 0, 1) := by decide +kernel
theorem dX1_joined_86 : decode cX1_joined 86 = .ok (.lcmp, 1) := by decide +kernel
theorem dX1_joined_87 : decode cX1_joined 87 = .ok (.ifCond .ne 9, 3) := by decide +kernel
theorem dX1_joined_90 : decode cX1_joined 90 = .ok (.lload_n 3, 1) := by decide +kernel
theorem dX1_joined_91 : decode cX1_joined 91 = .ok (.lconst 0, 1) := by decide +kernel
theorem dX1_joined_92 : decode cX1_joined 92 = .ok (.lcmp, 1) := by decide +kernel
theorem dX1_joined_93 : decode cX1_joined 93 = .ok (.ifCond .eq 7, 3) := by decide +kernel
theorem dX1_joined_96 : decode cX1_joined 96 = .ok (.iconst 1, 1) := by decide +kernel
theorem dX1_joined_97 : decode cX1_joined 97 = .ok (.goto 4, 3) := by decide +kernel
theorem dX1_joined_100 : decode cX1_joined 100 = .ok (.iconst 0, 1) := by decide +kernel
theorem dX1_joined_101 : decode cX1_joined 101 = .ok (.invokestatic 69, 3) := by decide +kernel
theorem dX1_joined_104 : decode cX1_joined 104 = .ok (.lreturn, 1) := by decide +kernel
theorem dX1_joined_105 : decode cX1_joined 105 = .ok (.lload_n 0, 1) := by decide +kernel
theorem dX1_joined_106 : decode cX1_joined 106 = .ok (.lconst 0, 1) := by decide +kernel
theorem dX1_joined_107 : decode cX1_joined 107 = .ok (.lcmp, 1) := by decide +kernel
theorem dX1_joined_108 : decode cX1_joined 108 = .ok (.ifCond .eq 13, 3) := by decide +kernel
theorem dX1_joined_111 : decode cX1_joined 111 = .ok (.lload_n 3, 1) := by decide +kernel
theorem dX1_joined_112 : decode cX1_joined 112 = .ok (.lconst 0, 1) := by decide +kernel
theorem dX1_joined_113 : decode cX1_joined 113 = .ok (.lcmp, 1) := by decide +kernel
theorem dX1_joined_114 : decode cX1_joined 114 = .ok (.ifCond .eq 7, 3) := by decide +kernel
theorem dX1_joined_117 : decode cX1_joined 117 = .ok (.iconst 1, 1) := by decide +kernel
theorem dX1_joined_118 : decode cX1_joined 118 = .ok (.goto 4, 3) := by decide +kernel
theorem dX1_joined_121 : decode cX1_joined 121 = .ok (.iconst 0, 1) := by decide +kernel
theorem dX1_joined_122 : decode cX1_joined 122 = .ok (.invokestatic 69, 3) := by decide +kernel
theorem dX1_joined_125 : decode cX1_joined 125 = .ok (.lreturn, 1) := by decide +kernel
theorem dX1_joined_126 : decode cX1_joined 126 = .ok (.lload_n 0, 1) := by decide +kernel
theorem dX1_joined_127 : decode cX1_joined 127 = .ok (.lload_n 3, 1) := by decide +kernel
theorem dX1_joined_128 : decode cX1_joined 128 = .ok (.lcmp, 1) := by decide +kernel
theorem dX1_joined_129 : decode cX1_joined 129 = .ok (.ifCond .ge 7, 3) := by decide +kernel
theorem dX1_joined_132 : decode cX1_joined 132 = .ok (.iconst 1, 1) := by decide +kernel
theorem dX1_joined_133 : decode cX1_joined 133 = .ok (.goto 4, 3) := by decide +kernel
theorem dX1_joined_136 : decode cX1_joined 136 = .ok (.iconst 0, 1) := by decide +kernel
theorem dX1_joined_137 : decode cX1_joined 137 = .ok (.invokestatic 69, 3) := by decide +kernel
theorem dX1_joined_140 : decode cX1_joined 140 = .ok (.lreturn, 1) := by decide +kernel
theorem dX1_joined_141 : decode cX1_joined 141 = .ok (.lload_n 0, 1) := by decide +kernel
theorem dX1_joined_142 : decode cX1_joined 142 = .ok (.lload_n 3, 1) := by decide +kernel
theorem dX1_joined_143 : decode cX1_joined 143 = .ok (.lcmp, 1) := by decide +kernel
theorem dX1_joined_144 : decode cX1_joined 144 = .ok (.ifCond .le 7, 3) := by decide +kernel
theorem dX1_joined_147 : decode cX1_joined 147 = .ok (.iconst 1, 1) := by decide +kernel
theorem dX1_joined_148 : decode cX1_joined 148 = .ok (.goto 4, 3) := by decide +kernel
theorem dX1_joined_151 : decode cX1_joined 151 = .ok (.iconst 0, 1) := by decide +kernel
theorem dX1_joined_152 : decode cX1_joined 152 = .ok (.invokestatic 69, 3) := by decide +kernel
theorem dX1_joined_155 : decode cX1_joined 155 = .ok (.lreturn, 1) := by decide +kernel
theorem dX1_joined_156 : decode cX1_joined 156 = .ok (.lload_n 0, 1) := by decide +kernel
theorem dX1_joined_157 : decode cX1_joined 157 = .ok (.lload_n 3, 1) := by decide +kernel
theorem dX1_joined_158 : decode cX1_joined 158 = .ok (.lcmp, 1) := by decide +kernel
theorem dX1_joined_159 : decode cX1_joined 159 = .ok (.ifCond .ne 7, 3) := by decide +kernel
theorem dX1_joined_162 : decode cX1_joined 162 = .ok (.iconst 1, 1) := by decide +kernel
theorem dX1_joined_163 : decode cX1_joined 163 = .ok (.goto 4, 3) := by decide +kernel
theorem dX1_joined_166 : decode cX1_joined 166 = .ok (.iconst 0, 1) := by decide +kernel
theorem dX1_joined_167 : decode cX1_joined 167 = .ok (.invokestatic 69, 3) := by decide +kernel
theorem dX1_joined_170 : decode cX1_joined 170 = .ok (.lreturn, 1) := by decide +kernel
theorem dX1_joined_171 : decode cX1_joined 171 = .ok (.lload_n 0, 1) := by decide +kernel
theorem dX1_joined_172 : decode cX1_joined 172 = .ok (.lload_n 3, 1) := by decide +kernel
theorem dX1_joined_173 : decode cX1_joined 173 = .ok (.ladd, 1) := by decide +kernel
theorem dX1_joined_174 : decode cX1_joined 174 = .ok (.lreturn, 1) := by decide +kernel
theorem dX1_joined_175 : decode cX1_joined 175 = .ok (.lload_n 0, 1) := by decide +kernel
theorem dX1_joined_176 : decode cX1_joined 176 = .ok (.lload_n 3, 1) := by decide +kernel
theorem dX1_joined_177 : decode cX1_joined 177 = .ok (.lsub, 1) := by decide +kernel
theorem dX1_joined_178 : decode cX1_joined 178 = .ok (.lreturn, 1) := by decide +kernel
theorem dX1_joined_179 : decode cX1_joined 179 = .ok (.lload_n 0, 1) := by decide +kernel
theorem dX1_joined_180 : decode cX1_joined 180 = .ok (.lload_n 3, 1) := by decide +kernel
theorem dX1_joined_181 : decode cX1_joined 181 = .ok (.lmul, 1) := by decide +kernel
theorem dX1_joined_182 : decode cX1_joined 182 = .ok (.lreturn, 1) := by decide +kernel
theorem dX1_joined_183 : decode cX1_joined 183 = .ok (.lload_n 3, 1) := by decide +kernel
theorem dX1_joined_184 : decode cX1_joined 184 = .ok (.lconst 0, 1) := by decide +kernel
theorem dX1_joined_185 : decode cX1_joined 185 = .ok (.lcmp, 1) := by decide +kernel
theorem dX1_joined_186 : decode cX1_joined 186 = .ok (.ifCond .ne 7, 3) := by decide +kernel
theorem dX1_joined_189 : decode cX1_joined 189 = .ok (.lconst 0, 1) := by decide +kernel
theorem dX1_joined_190 : decode cX1_joined 190 = .ok (.goto 6, 3) := by decide +kernel
theorem dX1_joined_193 : decode cX1_joined 193 = .ok (.lload_n 0, 1) := by decide +kernel
theorem dX1_joined_194 : decode cX1_joined 194 = .ok (.lload_n 3, 1) := by decide +kernel
theorem dX1_joined_195 : decode cX1_joined 195 = .ok (.ldiv, 1) := by decide +kernel
theorem dX1_joined_196 : decode cX1_joined 196 = .ok (.lreturn, 1) := by decide +kernel
theorem dX1_joined_197 : decode cX1_joined 197 = .ok (.lconst 0, 1) := by decide +kernel
theorem dX1_joined_198 : decode cX1_joined 198 = .ok (.lreturn, 1) := by decide +kernel
theorem dX1_truth_0 : decode cX1_truth 0 = .ok (.iload_n 0, 1) := by decide +kernel
theorem dX1_truth_1 : decode cX1_truth 1 = .ok (.ifCond .eq 7, 3) := by decide +kernel
theorem dX1_truth_4 : decode cX1_truth 4 = .ok (.lconst 1, 1) := by decide +kernel
theorem dX1_truth_5 : decode cX1_truth 5 = .ok (.goto 4, 3) := by decide +kernel
theorem dX1_truth_8 : decode cX1_truth 8 = .ok (.lconst 0, 1) := by decide +kernel
theorem dX1_truth_9 : decode cX1_truth 9 = .ok (.lreturn, 1) := by decide +kernel
theorem dX2_init_0 : decode cX2_init 0 = .ok (.aload_n 0, 1) := by decide +kernel
theorem dX2_init_1 : decode cX2_init 1 = .ok (.invokespecial 3, 3) := by decide +kernel
theorem dX2_init_4 : decode cX2_init 4 = .ok (.aload_n 0, 1) := by decide +kernel
theorem dX2_init_5 : decode cX2_init 5 = .ok (.bipush 60, 2) := by decide +kernel
theorem dX2_init_7 : decode cX2_init 7 = .ok (.newarray .int, 2) := by decide +kernel
theorem dX2_init_9 : decode cX2_init 9 = .ok (.putfield 9, 3) := by decide +kernel
theorem dX2_init_12 : decode cX2_init 12 = .ok (.aload_n 0, 1) := by decide +kernel
theorem dX2_init_13 : decode cX2_init 13 = .ok (.iconst 0, 1) := by decide +kernel
theorem dX2_init_14 : decode cX2_init 14 = .ok (.putfield 15, 3) := by decide +kernel
theorem dX2_init_17 : decode cX2_init 17 = .ok (.aload_n 0, 1) := by decide +kernel
theorem dX2_init_18 : decode cX2_init 18 = .ok (.iconst 0, 1) := by decide +kernel
theorem dX2_init_19 : decode cX2_init 19 = .ok (.putfield 19, 3) := by decide +kernel
theorem dX2_init_22 : decode cX2_init 22 = .ok (.aload_n 0, 1) := by decide +kernel
theorem dX2_init_23 : decode cX2_init 23 = .ok (.aload_n 1, 1) := by decide +kernel
theorem dX2_init_24 : decode cX2_init 24 = .ok (.putfield 22, 3) := by decide +kernel
theorem dX2_init_27 : decode cX2_init 27 = .ok (.aload_n 0, 1) := by decide +kernel
theorem dX2_init_28 : decode cX2_init 28 = .ok (.aload_n 2, 1) := by decide +kernel
theorem dX2_init_29 : decode cX2_init 29 = .ok (.putfield 26, 3) := by decide +kernel
theorem dX2_init_32 : decode cX2_init 32 = .ok (.return_, 1) := by decide +kernel
theorem dX2_readAll_0 : decode cX2_readAll 0 = .ok (.aload_n 0, 1) := by decide +kernel
theorem dX2_readAll_1 : decode cX2_readAll 1 = .ok (.iconst 0, 1) := by decide +kernel
theorem dX2_readAll_2 : decode cX2_readAll 2 = .ok (.putfield 19, 3) := by decide +kernel
theorem dX2_readAll_5 : decode cX2_readAll 5 = .ok (.aload_n 0, 1) := by decide +kernel
theorem dX2_readAll_6 : decode cX2_readAll 6 = .ok (.iconst 0, 1) := by decide +kernel
theorem dX2_readAll_7 : decode cX2_readAll 7 = .ok (.putfield 15, 3) := by decide +kernel
theorem dX2_readAll_10 : decode cX2_readAll 10 = .ok (.aload_n 0, 1) := by decide +kernel
theorem dX2_readAll_11 : decode cX2_readAll 11 = .ok (.getfield 26, 3) := by decide +kernel
theorem dX2_readAll_14 : decode cX2_readAll 14 = .ok (.invokevirtual 30, 3) := by decide +kernel
theorem dX2_readAll_17 : decode cX2_readAll 17 = .ok (.aload_n 0, 1) := by decide +kernel
theorem dX2_readAll_18 : decode cX2_readAll 18 = .ok (.iconst 0, 1) := by decide +kernel
theorem dX2_readAll_19 : decode cX2_readAll 19 = .ok (.invokevirtual 35, 3) := by decide +kernel
theorem dX2_readAll_22 : decode cX2_readAll 22 = .ok (.aload_n 0, 1) := by decide +kernel
theorem dX2_readAll_23 : decode cX2_readAll 23 = .ok (.invokevirtual 39, 3) := by decide +kernel
theorem dX2_readAll_26 : decode cX2_readAll 26 = .ok (.iconst (-1), 1) := by decide +kernel
theorem dX2_readAll_27 : decode cX2_readAll 27 = .ok (.if_icmp .eq 12, 3) := by decide +kernel
theorem dX2_readAll_30 : decode cX2_readAll 30 = .ok (.aload_n 0, 1) := by decide +kernel
theorem dX2_readAll_31 : decode cX2_readAll 31 = .ok (.aload_n 0, 1) := by decide +kernel
theorem dX2_readAll_32 : decode cX2_readAll 32 = .ok (.getfield 19, 3) := by decide +kernel
theorem dX2_readAll_35 : decode cX2_readAll 35 = .ok (.iconst 1, 1) := by decide +kernel
theorem dX2_readAll_36 : decode cX2_readAll 36 = .ok (.invokevirtual 45, 3) := by decide +kernel
theorem dX2_readAll_39 : decode cX2_readAll 39 = .ok (.return_, 1) := by decide +kernel
theorem dX2_readValue_0 : decode cX2_readValue 0 = .ok (.aload_n 0, 1) := by decide +kernel
theorem dX2_readValue_1 : decode cX2_readValue 1 = .ok (.iload_n 1, 1) := by decide +kernel
theorem dX2_readValue_2 : decode cX2_readValue 2 = .ok (.invokevirtual 49, 3) := by decide +kernel
theorem dX2_readValue_5 : decode cX2_readValue 5 = .ok (.iconst 0, 1) := by decide +kernel
theorem dX2_readValue_6 : decode cX2_readValue 6 = .ok (.istore_n 2, 1) := by decide +kernel
theorem dX2_readValue_7 : decode cX2_readValue 7 = .ok (.iload_n 2, 1) := by decide +kernel
theorem dX2_readValue_8 : decode cX2_readValue 8 = .ok (.bipush 60, 2) := by decide +kernel
theorem dX2_readValue_10 : decode cX2_readValue 10 = .ok (.if_icmp .ge 42, 3) := by decide +kernel
theorem dX2_readValue_13 : decode cX2_readValue 13 = .ok (.aload_n 0, 1) := by decide +kernel
theorem dX2_readValue_14 : decode cX2_readValue 14 = .ok (.invokevirtual 39, 3) := by decide +kernel
theorem dX2_readValue_17 : decode cX2_readValue 17 = .ok (.bipush 124, 2) := by decide +kernel
theorem dX2_readValue_19 : decode cX2_readValue 19 = .ok (.if_icmp .ne 33, 3) := by decide +kernel
theorem dX2_readValue_22 : decode cX2_readValue 22 = .ok (.aload_n 0, 1) := by decide +kernel
theorem dX2_readValue_23 : decode cX2_readValue 23 = .ok (.dup, 1) := by decide +kernel
theorem dX2_readValue_24 : decode cX2_readValue 24 = .ok (.getfield 19, 3) := by decide +kernel
theorem dX2_readValue_27 : decode cX2_readValue 27 = .ok (.iconst 1, 1) := by decide +kernel
theorem dX2_readValue_28 : decode cX2_readValue 28 = .ok (.iadd, 1) := by decide +kernel
theorem dX2_readValue_29 : decode cX2_readValue 29 = .ok (.putfield 19, 3) := by decide +kernel
theorem dX2_readValue_32 : decode cX2_readValue 32 = .ok (.aload_n 0, 1) := by decide +kernel
theorem dX2_readValue_33 : decode cX2_readValue 33 = .ok (.iload_n 1, 1) := by decide +kernel
theorem dX2_readValue_34 : decode cX2_readValue 34 = .ok (.invokevirtual 49, 3) := by decide +kernel
theorem dX2_readValue_37 : decode cX2_readValue 37 = .ok (.aload_n 0, 1) := by decide +kernel
theorem dX2_readValue_38 : decode cX2_readValue 38 = .ok (.getfield 26, 3) := by decide +kernel
theorem dX2_readValue_41 : decode cX2_readValue 41 = .ok (.bipush 124, 2) := by decide +kernel
theorem dX2_readValue_43 : decode cX2_readValue 43 = .ok (.invokevirtual 52, 3) := by decide +kernel
theorem dX2_readValue_46 : decode cX2_readValue 46 = .ok (.iinc 2 1, 3) := by decide +kernel
theorem dX2_readValue_49 : decode cX2_readValue 49 = .ok (.goto (-42), 3) := by decide +kernel
theorem dX2_readValue_52 : decode cX2_readValue 52 = .ok (.return_, 1) := by decide +kernel
theorem dX2_readBoth_0 : decode cX2_readBoth 0 = .ok (.aload_n 0, 1) := by decide +kernel
theorem dX2_readBoth_1 : decode cX2_readBoth 1 = .ok (.iload_n 1, 1) := by decide +kernel
theorem dX2_readBoth_2 : decode cX2_readBoth 2 = .ok (.invokevirtual 55, 3) := by decide +kernel
theorem dX2_readBoth_5 : decode cX2_readBoth 5 = .ok (.iconst 0, 1) := by decide +kernel
theorem dX2_readBoth_6 : decode cX2_readBoth 6 = .ok (.istore_n 2, 1) := by decide +kernel
theorem dX2_readBoth_7 : decode cX2_readBoth 7 = .ok (.iload_n 2, 1) := by decide +kernel
theorem dX2_readBoth_8 : decode cX2_readBoth 8 = .ok (.bipush 60, 2) := by decide +kernel
theorem dX2_readBoth_10 : decode cX2_readBoth 10 = .ok (.if_icmp .ge 42, 3) := by decide +kernel
theorem dX2_readBoth_13 : decode cX2_readBoth 13 = .ok (.aload_n 0, 1) := by decide +kernel
theorem dX2_readBoth_14 : decode cX2_readBoth 14 = .ok (.invokevirtual 39, 3) := by decide +kernel
theorem dX2_readBoth_17 : decode cX2_readBoth 17 = .ok (.bipush 38, 2) := by decide +kernel
theorem dX2_readBoth_19 : decode cX2_readBoth 19 = .ok (.if_icmp .ne 33, 3) := by decide +kernel
theorem dX2_readBoth_22 : decode cX2_readBoth 22 = .ok (.aload_n 0, 1) := by decide +kernel
theorem dX2_readBoth_23 : decode cX2_readBoth 23 = .ok (.dup, 1) := by decide +kernel
theorem dX2_readBoth_24 : decode cX2_readBoth 24 = .ok (.getfield 19, 3) := by decide +kernel
theorem dX2_readBoth_27 : decode cX2_readBoth 27 = .ok (.iconst 1, 1) := by decide +kernel
theorem dX2_readBoth_28 : decode cX2_readBoth 28 = .ok (.iadd, 1) := by decide +kernel
theorem dX2_readBoth_29 : decode cX2_readBoth 29 = .ok (.putfield 19, 3) := by decide +kernel
theorem dX2_readBoth_32 : decode cX2_readBoth 32 = .ok (.aload_n 0, 1) := by decide +kernel
theorem dX2_readBoth_33 : decode cX2_readBoth 33 = .ok (.iload_n 1, 1) := by decide +kernel
theorem dX2_readBoth_34 : decode cX2_readBoth 34 = .ok (.invokevirtual 55, 3) := by decide +kernel
theorem dX2_readBoth_37 : decode cX2_readBoth 37 = .ok (.aload_n 0, 1) := by decide +kernel
theorem dX2_readBoth_38 : decode cX2_readBoth 38 = .ok (.getfield 26, 3) := by decide +kernel
theorem dX2_readBoth_41 : decode cX2_readBoth 41 = .ok (.bipush 38, 2) := by decide +kernel
theorem dX2_readBoth_43 : decode cX2_readBoth 43 = .ok (.invokevirtual 52, 3) := by decide +kernel
theorem dX2_readBoth_46 : decode cX2_readBoth 46 = .ok (.iinc 2 1, 3) := by decide +kernel
theorem dX2_readBoth_49 : decode cX2_readBoth 49 = .ok (.goto (-42), 3) := by decide +kernel
theorem dX2_readBoth_52 : decode cX2_readBoth 52 = .ok (.return_, 1) := by decide +kernel
theorem dX2_readHeld_0 : decode cX2_readHeld 0 = .ok (.aload_n 0, 1) := by decide +kernel
theorem dX2_readHeld_1 : decode cX2_readHeld 1 = .ok (.iload_n 1, 1) := by decide +kernel
theorem dX2_readHeld_2 : decode cX2_readHeld 2 = .ok (.invokevirtual 58, 3) := by decide +kernel
theorem dX2_readHeld_5 : decode cX2_readHeld 5 = .ok (.aload_n 0, 1) := by decide +kernel
theorem dX2_readHeld_6 : decode cX2_readHeld 6 = .ok (.invokevirtual 39, 3) := by decide +kernel
theorem dX2_readHeld_9 : decode cX2_readHeld 9 = .ok (.istore_n 2, 1) := by decide +kernel
theorem dX2_readHeld_10 : decode cX2_readHeld 10 = .ok (.iload_n 2, 1) := by decide +kernel
theorem dX2_readHeld_11 : decode cX2_readHeld 11 = .ok (.bipush 60, 2) := by decide +kernel
theorem dX2_readHeld_13 : decode cX2_readHeld 13 = .ok (.if_icmp .eq 15, 3) := by decide +kernel
theorem dX2_readHeld_16 : decode cX2_readHeld 16 = .ok (.iload_n 2, 1) := by decide +kernel
theorem dX2_readHeld_17 : decode cX2_readHeld 17 = .ok (.bipush 62, 2) := by decide +kernel
theorem dX2_readHeld_19 : decode cX2_readHeld 19 = .ok (.if_icmp .eq 9, 3) := by decide +kernel
theorem dX2_readHeld_22 : decode cX2_readHeld 22 = .ok (.iload_n 2, 1) := by decide +kernel
theorem dX2_readHeld_23 : decode cX2_readHeld 23 = .ok (.bipush 61, 2) := by decide +kernel
theorem dX2_readHeld_25 : decode cX2_readHeld 25 = .ok (.if_icmp .ne 26, 3) := by decide +kernel
theorem dX2_readHeld_28 : decode cX2_readHeld 28 = .ok (.aload_n 0, 1) := by decide +kernel
theorem dX2_readHeld_29 : decode cX2_readHeld 29 = .ok (.dup, 1) := by decide +kernel
theorem dX2_readHeld_30 : decode cX2_readHeld 30 = .ok (.getfield 19, 3) := by decide +kernel
theorem dX2_readHeld_33 : decode cX2_readHeld 33 = .ok (.iconst 1, 1) := by decide +kernel
theorem dX2_readHeld_34 : decode cX2_readHeld 34 = .ok (.iadd, 1) := by decide +kernel
theorem dX2_readHeld_35 : decode cX2_readHeld 35 = .ok (.putfield 19, 3) := by decide +kernel
theorem dX2_readHeld_38 : decode cX2_readHeld 38 = .ok (.aload_n 0, 1) := by decide +kernel
theorem dX2_readHeld_39 : decode cX2_readHeld 39 = .ok (.iload_n 1, 1) := by decide +kernel
theorem dX2_readHeld_40 : decode cX2_readHeld 40 = .ok (.invokevirtual 58, 3) := by decide +kernel
theorem dX2_readHeld_43 : decode cX2_readHeld 43 = .ok (.aload_n 0, 1) := by decide +kernel
theorem dX2_readHeld_44 : decode cX2_readHeld 44 = .ok (.getfield 26, 3) := by decide +kernel
theorem dX2_readHeld_47 : decode cX2_readHeld 47 = .ok (.iload_n 2, 1) := by decide +kernel
theorem dX2_readHeld_48 : decode cX2_readHeld 48 = .ok (.invokevirtual 52, 3) := by decide +kernel
theorem dX2_readHeld_51 : decode cX2_readHeld 51 = .ok (.return_, 1) := by decide +kernel
theorem dX2_readSum_0 : decode cX2_readSum 0 = .ok (.aload_n 0, 1) := by decide +kernel
theorem dX2_readSum_1 : decode cX2_readSum 1 = .ok (.iload_n 1, 1) := by decide +kernel
theorem dX2_readSum_2 : decode cX2_readSum 2 = .ok (.invokevirtual 61, 3) := by decide +kernel
theorem dX2_readSum_5 : decode cX2_readSum 5 = .ok (.aload_n 0, 1) := by decide +kernel
theorem dX2_readSum_6 : decode cX2_readSum 6 = .ok (.invokevirtual 39, 3) := by decide +kernel
theorem dX2_readSum_9 : decode cX2_readSum 9 = .ok (.istore_n 2, 1) := by decide +kernel
theorem dX2_readSum_10 : decode cX2_readSum 10 = .ok (.iconst 0, 1) := by decide +kernel
theorem dX2_readSum_11 : decode cX2_readSum 11 = .ok (.istore_n 3, 1) := by decide +kernel
theorem dX2_readSum_12 : decode cX2_readSum 12 = .ok (.iload_n 3, 1) := by decide +kernel
theorem dX2_readSum_13 : decode cX2_readSum 13 = .ok (.bipush 60, 2) := by decide +kernel
theorem dX2_readSum_15 : decode cX2_readSum 15 = .ok (.if_icmp .ge 49, 3) := by decide +kernel
theorem dX2_readSum_18 : decode cX2_readSum 18 = .ok (.iload_n 2, 1) := by decide +kernel
theorem dX2_readSum_19 : decode cX2_readSum 19 = .ok (.bipush 43, 2) := by decide +kernel
theorem dX2_readSum_21 : decode cX2_readSum 21 = .ok (.if_icmp .eq 9, 3) := by decide +kernel
theorem dX2_readSum_24 : decode cX2_readSum 24 = .ok (.iload_n 2, 1) := by decide +kernel
theorem dX2_readSum_25 : decode cX2_readSum 25 = .ok (.bipush 45, 2) := by decide +kernel
theorem dX2_readSum_27 : decode cX2_readSum 27 = .ok (.if_icmp .ne 37, 3) := by decide +kernel
theorem dX2_readSum_30 : decode cX2_readSum 30 = .ok (.aload_n 0, 1) := by decide +kernel
theorem dX2_readSum_31 : decode cX2_readSum 31 = .ok (.dup, 1) := by decide +kernel
theorem dX2_readSum_32 : decode cX2_readSum 32 = .ok (.getfield 19, 3) := by decide +kernel
theorem dX2_readSum_35 : decode cX2_readSum 35 = .ok (.iconst 1, 1) := by decide +kernel
theorem dX2_readSum_36 : decode cX2_readSum 36 = .ok (.iadd, 1) := by decide +kernel
theorem dX2_readSum_37 : decode cX2_readSum 37 = .ok (.putfield 19, 3) := by decide +kernel
theorem dX2_readSum_40 : decode cX2_readSum 40 = .ok (.aload_n 0, 1) := by decide +kernel
theorem dX2_readSum_41 : decode cX2_readSum 41 = .ok (.iload_n 1, 1) := by decide +kernel
theorem dX2_readSum_42 : decode cX2_readSum 42 = .ok (.invokevirtual 61, 3) := by decide +kernel
theorem dX2_readSum_45 : decode cX2_readSum 45 = .ok (.aload_n 0, 1) := by decide +kernel
theorem dX2_readSum_46 : decode cX2_readSum 46 = .ok (.getfield 26, 3) := by decide +kernel
theorem dX2_readSum_49 : decode cX2_readSum 49 = .ok (.iload_n 2, 1) := by decide +kernel
theorem dX2_readSum_50 : decode cX2_readSum 50 = .ok (.invokevirtual 52, 3) := by decide +kernel
theorem dX2_readSum_53 : decode cX2_readSum 53 = .ok (.aload_n 0, 1) := by decide +kernel
theorem dX2_readSum_54 : decode cX2_readSum 54 = .ok (.invokevirtual 39, 3) := by decide +kernel
theorem dX2_readSum_57 : decode cX2_readSum 57 = .ok (.istore_n 2, 1) := by decide +kernel
theorem dX2_readSum_58 : decode cX2_readSum 58 = .ok (.iinc 3 1, 3) := by decide +kernel
theorem dX2_readSum_61 : decode cX2_readSum 61 = .ok (.goto (-49), 3) := by decide +kernel
theorem dX2_readSum_64 : decode cX2_readSum 64 = .ok (.return_, 1) := by decide +kernel
theorem dX2_readTerm_0 : decode cX2_readTerm 0 = .ok (.aload_n 0, 1) := by decide +kernel
theorem dX2_readTerm_1 : decode cX2_readTerm 1 = .ok (.iload_n 1, 1) := by decide +kernel
theorem dX2_readTerm_2 : decode cX2_readTerm 2 = .ok (.invokevirtual 64, 3) := by decide +kernel
theorem dX2_readTerm_5 : decode cX2_readTerm 5 = .ok (.aload_n 0, 1) := by decide +kernel
theorem dX2_readTerm_6 : decode cX2_readTerm 6 = .ok (.invokevirtual 39, 3) := by decide +kernel
theorem dX2_readTerm_9 : decode cX2_readTerm 9 = .ok (.istore_n 2, 1) := by decide +kernel
theorem dX2_readTerm_10 : decode cX2_readTerm 10 = .ok (.iconst 0, 1) := by decide +kernel
theorem dX2_readTerm_11 : decode cX2_readTerm 11 = .ok (.istore_n 3, 1) := by decide +kernel
theorem dX2_readTerm_12 : decode cX2_readTerm 12 = .ok (.iload_n 3, 1) := by decide +kernel
theorem dX2_readTerm_13 : decode cX2_readTerm 13 = .ok (.bipush 60, 2) := by decide +kernel
theorem dX2_readTerm_15 : decode cX2_readTerm 15 = .ok (.if_icmp .ge 49, 3) := by decide +kernel
theorem dX2_readTerm_18 : decode cX2_readTerm 18 = .ok (.iload_n 2, 1) := by decide +kernel
theorem dX2_readTerm_19 : decode cX2_readTerm 19 = .ok (.bipush 42, 2) := by decide +kernel
theorem dX2_readTerm_21 : decode cX2_readTerm 21 = .ok (.if_icmp .eq 9, 3) := by decide +kernel
theorem dX2_readTerm_24 : decode cX2_readTerm 24 = .ok (.iload_n 2, 1) := by decide +kernel
theorem dX2_readTerm_25 : decode cX2_readTerm 25 = .ok (.bipush 47, 2) := by decide +kernel
theorem dX2_readTerm_27 : decode cX2_readTerm 27 = .ok (.if_icmp .ne 37, 3) := by decide +kernel
theorem dX2_readTerm_30 : decode cX2_readTerm 30 = .ok (.aload_n 0, 1) := by decide +kernel
theorem dX2_readTerm_31 : decode cX2_readTerm 31 = .ok (.dup, 1) := by decide +kernel
theorem dX2_readTerm_32 : decode cX2_readTerm 32 = .ok (.getfield 19, 3) := by decide +kernel
theorem dX2_readTerm_35 : decode cX2_readTerm 35 = .ok (.iconst 1, 1) := by decide +kernel
theorem dX2_readTerm_36 : decode cX2_readTerm 36 = .ok (.iadd, 1) := by decide +kernel
theorem dX2_readTerm_37 : decode cX2_readTerm 37 = .ok (.putfield 19, 3) := by decide +kernel
theorem dX2_readTerm_40 : decode cX2_readTerm 40 = .ok (.aload_n 0, 1) := by decide +kernel
theorem dX2_readTerm_41 : decode cX2_readTerm 41 = .ok (.iload_n 1, 1) := by decide +kernel
theorem dX2_readTerm_42 : decode cX2_readTerm 42 = .ok (.invokevirtual 64, 3) := by decide +kernel
theorem dX2_readTerm_45 : decode cX2_readTerm 45 = .ok (.aload_n 0, 1) := by decide +kernel
theorem dX2_readTerm_46 : decode cX2_readTerm 46 = .ok (.getfield 26, 3) := by decide +kernel
theorem dX2_readTerm_49 : decode cX2_readTerm 49 = .ok (.iload_n 2, 1) := by decide +kernel
theorem dX2_readTerm_50 : decode cX2_readTerm 50 = .ok (.invokevirtual 52, 3) := by decide +kernel
theorem dX2_readTerm_53 : decode cX2_readTerm 53 = .ok (.aload_n 0, 1) := by decide +kernel
theorem dX2_readTerm_54 : decode cX2_readTerm 54 = .ok (.invokevirtual 39, 3) := by decide +kernel
theorem dX2_readTerm_57 : decode cX2_readTerm 57 = .ok (.istore_n 2, 1) := by decide +kernel
theorem dX2_readTerm_58 : decode cX2_readTerm 58 = .ok (.iinc 3 1, 3) := by decide +kernel
theorem dX2_readTerm_61 : decode cX2_readTerm 61 = .ok (.goto (-49), 3) := by decide +kernel
theorem dX2_readTerm_64 : decode cX2_readTerm 64 = .ok (.return_, 1) := by decide +kernel
theorem dX2_readUnit_0 : decode cX2_readUnit 0 = .ok (.aload_n 0, 1) := by decide +kernel
theorem dX2_readUnit_1 : decode cX2_readUnit 1 = .ok (.getfield 15, 3) := by decide +kernel
theorem dX2_readUnit_4 : decode cX2_readUnit 4 = .ok (.istore_n 2, 1) := by decide +kernel
theorem dX2_readUnit_5 : decode cX2_readUnit 5 = .ok (.aload_n 0, 1) := by decide +kernel
theorem dX2_readUnit_6 : decode cX2_readUnit 6 = .ok (.invokevirtual 67, 3) := by decide +kernel
theorem dX2_readUnit_9 : decode cX2_readUnit 9 = .ok (.aload_n 0, 1) := by decide +kernel
theorem dX2_readUnit_10 : decode cX2_readUnit 10 = .ok (.iload_n 1, 1) := by decide +kernel
theorem dX2_readUnit_11 : decode cX2_readUnit 11 = .ok (.invokevirtual 70, 3) := by decide +kernel
theorem dX2_readUnit_14 : decode cX2_readUnit 14 = .ok (.aload_n 0, 1) := by decide +kernel
theorem dX2_readUnit_15 : decode cX2_readUnit 15 = .ok (.getfield 15, 3) := by decide +kernel
theorem dX2_readUnit_18 : decode cX2_readUnit 18 = .ok (.iload_n 2, 1) := by decide +kernel
theorem dX2_readUnit_19 : decode cX2_readUnit 19 = .ok (.if_icmp .le 39, 3) := by decide +kernel
theorem dX2_readUnit_22 : decode cX2_readUnit 22 = .ok (.aload_n 0, 1) := by decide +kernel
theorem dX2_readUnit_23 : decode cX2_readUnit 23 = .ok (.getfield 15, 3) := by decide +kernel
theorem dX2_readUnit_26 : decode cX2_readUnit 26 = .ok (.ifCond .le 32, 3) := by decide +kernel
theorem dX2_readUnit_29 : decode cX2_readUnit 29 = .ok (.aload_n 0, 1) := by decide +kernel
theorem dX2_readUnit_30 : decode cX2_readUnit 30 = .ok (.dup, 1) := by decide +kernel
theorem dX2_readUnit_31 : decode cX2_readUnit 31 = .ok (.getfield 15, 3) := by decide +kernel
theorem dX2_readUnit_34 : decode cX2_readUnit 34 = .ok (.iconst 1, 1) := by decide +kernel
theorem dX2_readUnit_35 : decode cX2_readUnit 35 = .ok (.isub, 1) := by decide +kernel
theorem dX2_readUnit_36 : decode cX2_readUnit 36 = .ok (.putfield 15, 3) := by decide +kernel
theorem dX2_readUnit_39 : decode cX2_readUnit 39 = .ok (.aload_n 0, 1) := by decide +kernel
theorem dX2_readUnit_40 : decode cX2_readUnit 40 = .ok (.getfield 26, 3) := by decide +kernel
theorem dX2_readUnit_43 : decode cX2_readUnit 43 = .ok (.aload_n 0, 1) := by decide +kernel
theorem dX2_readUnit_44 : decode cX2_readUnit 44 = .ok (.getfield 9, 3) := by decide +kernel
theorem dX2_readUnit_47 : decode cX2_readUnit 47 = .ok (.aload_n 0, 1) := by decide +kernel
theorem dX2_readUnit_48 : decode cX2_readUnit 48 = .ok (.getfield 15, 3) := by decide +kernel
theorem dX2_readUnit_51 : decode cX2_readUnit 51 = .ok (.iaload, 1) := by decide +kernel
theorem dX2_readUnit_52 : decode cX2_readUnit 52 = .ok (.invokevirtual 52, 3) := by decide +kernel
theorem dX2_readUnit_55 : decode cX2_readUnit 55 = .ok (.goto (-41), 3) := by decide +kernel
theorem dX2_readUnit_58 : decode cX2_readUnit 58 = .ok (.return_, 1) := by decide +kernel
theorem dX2_readSignsBefore_0 : decode cX2_readSignsBefore 0 = .ok (.aload_n 0, 1) := by decide +kernel
theorem dX2_readSignsBefore_1 : decode cX2_readSignsBefore 1 = .ok (.invokevirtual 39, 3) := by decide +kernel
theorem dX2_readSignsBefore_4 : decode cX2_readSignsBefore 4 = .ok (.istore_n 1, 1) := by decide +kernel
theorem dX2_readSignsBefore_5 : decode cX2_readSignsBefore 5 = .ok (.aload_n 0, 1) := by decide +kernel
theorem dX2_readSignsBefore_6 : decode cX2_readSignsBefore 6 = .ok (.getfield 15, 3) := by decide +kernel
theorem dX2_readSignsBefore_9 : decode cX2_readSignsBefore 9 = .ok (.bipush 60, 2) := by decide +kernel
theorem dX2_readSignsBefore_11 : decode cX2_readSignsBefore 11 = .ok (.if_icmp .ge 64, 3) := by decide +kernel
theorem dX2_readSignsBefore_14 : decode cX2_readSignsBefore 14 = .ok (.iload_n 1, 1) := by decide +kernel
theorem dX2_readSignsBefore_15 : decode cX2_readSignsBefore 15 = .ok (.bipush 33, 2) := by decide +kernel
theorem dX2_readSignsBefore_17 : decode cX2_readSignsBefore 17 = .ok (.if_icmp .eq 9, 3) := by decide +kernel
theorem dX2_readSignsBefore_20 : decode cX2_readSignsBefore 20 = .ok (.iload_n 1, 1) := by decide +kernel
theorem dX2_readSignsBefore_21 : decode cX2_readSignsBefore 21 = .ok (.bipush 45, 2) := by decide +kernel
theorem dX2_readSignsBefore_23 : decode cX2_readSignsBefore 23 = .ok (.if_icmp .ne 52, 3) := by decide +kernel
theorem dX2_readSignsBefore_26 : decode cX2_readSignsBefore 26 = .ok (.aload_n 0, 1) := by decide +kernel
theorem dX2_readSignsBefore_27 : decode cX2_readSignsBefore 27 = .ok (.getfield 9, 3) := by decide +kernel
theorem dX2_readSignsBefore_30 : decode cX2_readSignsBefore 30 = .ok (.aload_n 0, 1) := by decide +kernel
theorem dX2_readSignsBefore_31 : decode cX2_readSignsBefore 31 = .ok (.getfield 15, 3) := by decide +kernel
theorem dX2_readSignsBefore_34 : decode cX2_readSignsBefore 34 = .ok (.iload_n 1, 1) := by decide +kernel
theorem dX2_readSignsBefore_35 : decode cX2_readSignsBefore 35 = .ok (.bipush 45, 2) := by decide +kernel
theorem dX2_readSignsBefore_37 : decode cX2_readSignsBefore 37 = .ok (.if_icmp .ne 8, 3) := by decide +kernel
theorem dX2_readSignsBefore_40 : decode cX2_readSignsBefore 40 = .ok (.bipush 126, 2) := by decide +kernel
theorem dX2_readSignsBefore_42 : decode cX2_readSignsBefore 42 = .ok (.goto 4, 3) := by decide +kernel
theorem dX2_readSignsBefore_45 : decode cX2_readSignsBefore 45 = .ok (.iload_n 1, 1) := by decide +kernel
theorem dX2_readSignsBefore_46 : decode cX2_readSignsBefore 46 = .ok (.iastore, 1) := by decide +kernel
theorem dX2_readSignsBefore_47 : decode cX2_readSignsBefore 47 = .ok (.aload_n 0, 1) := by decide +kernel
theorem dX2_readSignsBefore_48 : decode cX2_readSignsBefore 48 = .ok (.dup, 1) := by decide +kernel
theorem dX2_readSignsBefore_49 : decode cX2_readSignsBefore 49 = .ok (.getfield 15, 3) := by decide +kernel
theorem dX2_readSignsBefore_52 : decode cX2_readSignsBefore 52 = .ok (.iconst 1, 1) := by decide +kernel
theorem dX2_readSignsBefore_53 : decode cX2_readSignsBefore 53 = .ok (.iadd, 1) := by decide +kernel
theorem dX2_readSignsBefore_54 : decode cX2_readSignsBefore 54 = .ok (.putfield 15, 3) := by decide +kernel
theorem dX2_readSignsBefore_57 : decode cX2_readSignsBefore 57 = .ok (.aload_n 0, 1) := by decide +kernel
theorem dX2_readSignsBefore_58 : decode cX2_readSignsBefore 58 = .ok (.dup, 1) := by decide +kernel
theorem dX2_readSignsBefore_59 : decode cX2_readSignsBefore 59 = .ok (.getfield 19, 3) := by decide +kernel
theorem dX2_readSignsBefore_62 : decode cX2_readSignsBefore 62 = .ok (.iconst 1, 1) := by decide +kernel
theorem dX2_readSignsBefore_63 : decode cX2_readSignsBefore 63 = .ok (.iadd, 1) := by decide +kernel
theorem dX2_readSignsBefore_64 : decode cX2_readSignsBefore 64 = .ok (.putfield 19, 3) := by decide +kernel
theorem dX2_readSignsBefore_67 : decode cX2_readSignsBefore 67 = .ok (.aload_n 0, 1) := by decide +kernel
theorem dX2_readSignsBefore_68 : decode cX2_readSignsBefore 68 = .ok (.invokevirtual 39, 3) := by decide +kernel
theorem dX2_readSignsBefore_71 : decode cX2_readSignsBefore 71 = .ok (.istore_n 1, 1) := by decide +kernel
theorem dX2_readSignsBefore_72 : decode cX2_readSignsBefore 72 = .ok (.goto (-67), 3) := by decide +kernel
theorem dX2_readSignsBefore_75 : decode cX2_readSignsBefore 75 = .ok (.return_, 1) := by decide +kernel
theorem dX2_readCore_0 : decode cX2_readCore 0 = .ok (.aload_n 0, 1) := by decide +kernel
theorem dX2_readCore_1 : decode cX2_readCore 1 = .ok (.invokevirtual 39, 3) := by decide +kernel
theorem dX2_readCore_4 : decode cX2_readCore 4 = .ok (.istore_n 2, 1) := by decide +kernel
theorem dX2_readCore_5 : decode cX2_readCore 5 = .ok (.iload_n 2, 1) := by decide +kernel
theorem dX2_readCore_6 : decode cX2_readCore 6 = .ok (.invokestatic 73, 3) := by decide +kernel
theorem dX2_readCore_9 : decode cX2_readCore 9 = .ok (.ifCond .eq 10, 3) := by decide +kernel
theorem dX2_readCore_12 : decode cX2_readCore 12 = .ok (.aload_n 0, 1) := by decide +kernel
theorem dX2_readCore_13 : decode cX2_readCore 13 = .ok (.invokevirtual 77, 3) := by decide +kernel
theorem dX2_readCore_16 : decode cX2_readCore 16 = .ok (.goto 54, 3) := by decide +kernel
theorem dX2_readCore_19 : decode cX2_readCore 19 = .ok (.iload_n 2, 1) := by decide +kernel
theorem dX2_readCore_20 : decode cX2_readCore 20 = .ok (.invokestatic 80, 3) := by decide +kernel
theorem dX2_readCore_23 : decode cX2_readCore 23 = .ok (.ifCond .eq 24, 3) := by decide +kernel
theorem dX2_readCore_26 : decode cX2_readCore 26 = .ok (.aload_n 0, 1) := by decide +kernel
theorem dX2_readCore_27 : decode cX2_readCore 27 = .ok (.dup, 1) := by decide +kernel
theorem dX2_readCore_28 : decode cX2_readCore 28 = .ok (.getfield 19, 3) := by decide +kernel
theorem dX2_readCore_31 : decode cX2_readCore 31 = .ok (.iconst 1, 1) := by decide +kernel
theorem dX2_readCore_32 : decode cX2_readCore 32 = .ok (.iadd, 1) := by decide +kernel
theorem dX2_readCore_33 : decode cX2_readCore 33 = .ok (.putfield 19, 3) := by decide +kernel
theorem dX2_readCore_36 : decode cX2_readCore 36 = .ok (.aload_n 0, 1) := by decide +kernel
theorem dX2_readCore_37 : decode cX2_readCore 37 = .ok (.getfield 26, 3) := by decide +kernel
theorem dX2_readCore_40 : decode cX2_readCore 40 = .ok (.iload_n 2, 1) := by decide +kernel
theorem dX2_readCore_41 : decode cX2_readCore 41 = .ok (.invokevirtual 52, 3) := by decide +kernel
theorem dX2_readCore_44 : decode cX2_readCore 44 = .ok (.goto 26, 3) := by decide +kernel
theorem dX2_readCore_47 : decode cX2_readCore 47 = .ok (.iload_n 2, 1) := by decide +kernel
theorem dX2_readCore_48 : decode cX2_readCore 48 = .ok (.bipush 40, 2) := by decide +kernel
theorem dX2_readCore_50 : decode cX2_readCore 50 = .ok (.if_icmp .ne 11, 3) := by decide +kernel
theorem dX2_readCore_53 : decode cX2_readCore 53 = .ok (.aload_n 0, 1) := by decide +kernel
theorem dX2_readCore_54 : decode cX2_readCore 54 = .ok (.iload_n 1, 1) := by decide +kernel
theorem dX2_readCore_55 : decode cX2_readCore 55 = .ok (.invokevirtual 83, 3) := by decide +kernel
theorem dX2_readCore_58 : decode cX2_readCore 58 = .ok (.goto 12, 3) := by decide +kernel
theorem dX2_readCore_61 : decode cX2_readCore 61 = .ok (.aload_n 0, 1) := by decide +kernel
theorem dX2_readCore_62 : decode cX2_readCore 62 = .ok (.aload_n 0, 1) := by decide +kernel
theorem dX2_readCore_63 : decode cX2_readCore 63 = .ok (.getfield 19, 3) := by decide +kernel
theorem dX2_readCore_66 : decode cX2_readCore 66 = .ok (.iconst 1, 1) := by decide +kernel
theorem dX2_readCore_67 : decode cX2_readCore 67 = .ok (.invokevirtual 45, 3) := by decide +kernel
theorem dX2_readCore_70 : decode cX2_readCore 70 = .ok (.return_, 1) := by decide +kernel
theorem dX2_readNumber_0 : decode cX2_readNumber 0 = .ok (.aload_n 0, 1) := by decide +kernel
theorem dX2_readNumber_1 : decode cX2_readNumber 1 = .ok (.getfield 19, 3) := by decide +kernel
theorem dX2_readNumber_4 : decode cX2_readNumber 4 = .ok (.istore_n 1, 1) := by decide +kernel
theorem dX2_readNumber_5 : decode cX2_readNumber 5 = .ok (.iconst 0, 1) := by decide +kernel
theorem dX2_readNumber_6 : decode cX2_readNumber 6 = .ok (.istore_n 2, 1) := by decide +kernel
theorem dX2_readNumber_7 : decode cX2_readNumber 7 = .ok (.iconst 0, 1) := by decide +kernel
theorem dX2_readNumber_8 : decode cX2_readNumber 8 = .ok (.istore_n 3, 1) := by decide +kernel
theorem dX2_readNumber_9 : decode cX2_readNumber 9 = .ok (.iload_n 3, 1) := by decide +kernel
theorem dX2_readNumber_10 : decode cX2_readNumber 10 = .ok (.bipush 6, 2) := by decide +kernel
theorem dX2_readNumber_12 : decode cX2_readNumber 12 = .ok (.if_icmp .ge 56, 3) := by decide +kernel
theorem dX2_readNumber_15 : decode cX2_readNumber 15 = .ok (.aload_n 0, 1) := by decide +kernel
theorem dX2_readNumber_16 : decode cX2_readNumber 16 = .ok (.getfield 22, 3) := by decide +kernel
theorem dX2_readNumber_19 : decode cX2_readNumber 19 = .ok (.aload_n 0, 1) := by decide +kernel
theorem dX2_readNumber_20 : decode cX2_readNumber 20 = .ok (.getfield 19, 3) := by decide +kernel
theorem dX2_readNumber_23 : decode cX2_readNumber 23 = .ok (.invokevirtual 86, 3) := by decide +kernel
theorem dX2_readNumber_26 : decode cX2_readNumber 26 = .ok (.invokestatic 73, 3) := by decide +kernel
theorem dX2_readNumber_29 : decode cX2_readNumber 29 = .ok (.ifCond .eq 39, 3) := by decide +kernel
theorem dX2_readNumber_32 : decode cX2_readNumber 32 = .ok (.bipush 10, 2) := by decide +kernel
theorem dX2_readNumber_34 : decode cX2_readNumber 34 = .ok (.iload_n 2, 1) := by decide +kernel
theorem dX2_readNumber_35 : decode cX2_readNumber 35 = .ok (.imul, 1) := by decide +kernel
theorem dX2_readNumber_36 : decode cX2_readNumber 36 = .ok (.aload_n 0, 1) := by decide +kernel
theorem dX2_readNumber_37 : decode cX2_readNumber 37 = .ok (.getfield 22, 3) := by decide +kernel
theorem dX2_readNumber_40 : decode cX2_readNumber 40 = .ok (.aload_n 0, 1) := by decide +kernel
theorem dX2_readNumber_41 : decode cX2_readNumber 41 = .ok (.getfield 19, 3) := by decide +kernel
theorem dX2_readNumber_44 : decode cX2_readNumber 44 = .ok (.invokevirtual 86, 3) := by decide +kernel
theorem dX2_readNumber_47 : decode cX2_readNumber 47 = .ok (.iadd, 1) := by decide +kernel
theorem dX2_readNumber_48 : decode cX2_readNumber 48 = .ok (.bipush 48, 2) := by decide +kernel
theorem dX2_readNumber_50 : decode cX2_readNumber 50 = .ok (.isub, 1) := by decide +kernel
theorem dX2_readNumber_51 : decode cX2_readNumber 51 = .ok (.istore_n 2, 1) := by decide +kernel
theorem dX2_readNumber_52 : decode cX2_readNumber 52 = .ok (.aload_n 0, 1) := by decide +kernel
theorem dX2_readNumber_53 : decode cX2_readNumber 53 = .ok (.dup, 1) := by decide +kernel
theorem dX2_readNumber_54 : decode cX2_readNumber 54 = .ok (.getfield 19, 3) := by decide +kernel
theorem dX2_readNumber_57 : decode cX2_readNumber 57 = .ok (.iconst 1, 1) := by decide +kernel
theorem dX2_readNumber_58 : decode cX2_readNumber 58 = .ok (.iadd, 1) := by decide +kernel
theorem dX2_readNumber_59 : decode cX2_readNumber 59 = .ok (.putfield 19, 3) := by decide +kernel
theorem dX2_readNumber_62 : decode cX2_readNumber 62 = .ok (.iinc 3 1, 3) := by decide +kernel
theorem dX2_readNumber_65 : decode cX2_readNumber 65 = .ok (.goto (-56), 3) := by decide +kernel
theorem dX2_readNumber_68 : decode cX2_readNumber 68 = .ok (.aload_n 0, 1) := by decide +kernel
theorem dX2_readNumber_69 : decode cX2_readNumber 69 = .ok (.getfield 22, 3) := by decide +kernel
theorem dX2_readNumber_72 : decode cX2_readNumber 72 = .ok (.aload_n 0, 1) := by decide +kernel
theorem dX2_readNumber_73 : decode cX2_readNumber 73 = .ok (.getfield 19, 3) := by decide +kernel
theorem dX2_readNumber_76 : decode cX2_readNumber 76 = .ok (.invokevirtual 86, 3) := by decide +kernel
theorem dX2_readNumber_79 : decode cX2_readNumber 79 = .ok (.invokestatic 73, 3) := by decide +kernel
theorem dX2_readNumber_82 : decode cX2_readNumber 82 = .ok (.ifCond .eq 9, 3) := by decide +kernel
theorem dX2_readNumber_85 : decode cX2_readNumber 85 = .ok (.aload_n 0, 1) := by decide +kernel
theorem dX2_readNumber_86 : decode cX2_readNumber 86 = .ok (.iload_n 1, 1) := by decide +kernel
theorem dX2_readNumber_87 : decode cX2_readNumber 87 = .ok (.iconst 2, 1) := by decide +kernel
theorem dX2_readNumber_88 : decode cX2_readNumber 88 = .ok (.invokevirtual 45, 3) := by decide +kernel
theorem dX2_readNumber_91 : decode cX2_readNumber 91 = .ok (.aload_n 0, 1) := by decide +kernel
theorem dX2_readNumber_92 : decode cX2_readNumber 92 = .ok (.getfield 26, 3) := by decide +kernel
theorem dX2_readNumber_95 : decode cX2_readNumber 95 = .ok (.iload_n 2, 1) := by decide +kernel
theorem dX2_readNumber_96 : decode cX2_readNumber 96 = .ok (.invokevirtual 90, 3) := by decide +kernel
theorem dX2_readNumber_99 : decode cX2_readNumber 99 = .ok (.return_, 1) := by decide +kernel
theorem dX2_readInner_0 : decode cX2_readInner 0 = .ok (.iload_n 1, 1) := by decide +kernel
theorem dX2_readInner_1 : decode cX2_readInner 1 = .ok (.bipush 8, 2) := by decide +kernel
theorem dX2_readInner_3 : decode cX2_readInner 3 = .ok (.if_icmp .lt 13, 3) := by decide +kernel
theorem dX2_readInner_6 : decode cX2_readInner 6 = .ok (.aload_n 0, 1) := by decide +kernel
theorem dX2_readInner_7 : decode cX2_readInner 7 = .ok (.aload_n 0, 1) := by decide +kernel
theorem dX2_readInner_8 : decode cX2_readInner 8 = .ok (.getfield 19, 3) := by decide +kernel
theorem dX2_readInner_11 : decode cX2_readInner 11 = .ok (.iconst 3, 1) := by decide +kernel
theorem dX2_readInner_12 : decode cX2_readInner 12 = .ok (.invokevirtual 45, 3) := by decide +kernel
theorem dX2_readInner_15 : decode cX2_readInner 15 = .ok (.return_, 1) := by decide +kernel
theorem dX2_readInner_16 : decode cX2_readInner 16 = .ok (.aload_n 0, 1) := by decide +kernel
theorem dX2_readInner_17 : decode cX2_readInner 17 = .ok (.dup, 1) := by decide +kernel
theorem dX2_readInner_18 : decode cX2_readInner 18 = .ok (.getfield 19, 3) := by decide +kernel
theorem dX2_readInner_21 : decode cX2_readInner 21 = .ok (.iconst 1, 1) := by decide +kernel
theorem dX2_readInner_22 : decode cX2_readInner 22 = .ok (.iadd, 1) := by decide +kernel
theorem dX2_readInner_23 : decode cX2_readInner 23 = .ok (.putfield 19, 3) := by decide +kernel
theorem dX2_readInner_26 : decode cX2_readInner 26 = .ok (.aload_n 0, 1) := by decide +kernel
theorem dX2_readInner_27 : decode cX2_readInner 27 = .ok (.iload_n 1, 1) := by decide +kernel
theorem dX2_readInner_28 : decode cX2_readInner 28 = .ok (.iconst 1, 1) := by decide +kernel
theorem dX2_readInner_29 : decode cX2_readInner 29 = .ok (.iadd, 1) := by decide +kernel
theorem dX2_readInner_30 : decode cX2_readInner 30 = .ok (.invokevirtual 35, 3) := by decide +kernel
theorem dX2_readInner_33 : decode cX2_readInner 33 = .ok (.aload_n 0, 1) := by decide +kernel
theorem dX2_readInner_34 : decode cX2_readInner 34 = .ok (.invokevirtual 39, 3) := by decide +kernel
theorem dX2_readInner_37 : decode cX2_readInner 37 = .ok (.bipush 41, 2) := by decide +kernel
theorem dX2_readInner_39 : decode cX2_readInner 39 = .ok (.if_icmp .ne 16, 3) := by decide +kernel
theorem dX2_readInner_42 : decode cX2_readInner 42 = .ok (.aload_n 0, 1) := by decide +kernel
theorem dX2_readInner_43 : decode cX2_readInner 43 = .ok (.dup, 1) := by decide +kernel
theorem dX2_readInner_44 : decode cX2_readInner 44 = .ok (.getfield 19, 3) := by decide +kernel
theorem dX2_readInner_47 : decode cX2_readInner 47 = .ok (.iconst 1, 1) := by decide +kernel
theorem dX2_readInner_48 : decode cX2_readInner 48 = .ok (.iadd, 1) := by decide +kernel
theorem dX2_readInner_49 : decode cX2_readInner 49 = .ok (.putfield 19, 3) := by decide +kernel
theorem dX2_readInner_52 : decode cX2_readInner 52 = .ok (.goto 12, 3) := by decide +kernel
theorem dX2_readInner_55 : decode cX2_readInner 55 = .ok (.aload_n 0, 1) := by decide +kernel
theorem dX2_readInner_56 : decode cX2_readInner 56 = .ok (.aload_n 0, 1) := by decide +kernel
theorem dX2_readInner_57 : decode cX2_readInner 57 = .ok (.getfield 19, 3) := by decide +kernel
theorem dX2_readInner_60 : decode cX2_readInner 60 = .ok (.iconst 1, 1) := by decide +kernel
theorem dX2_readInner_61 : decode cX2_readInner 61 = .ok (.invokevirtual 45, 3) := by decide +kernel
theorem dX2_readInner_64 : decode cX2_readInner 64 = .ok (.return_, 1) := by decide +kernel
theorem dX2_nextSign_0 : decode cX2_nextSign 0 = .ok (.aload_n 0, 1) := by decide +kernel
theorem dX2_nextSign_1 : decode cX2_nextSign 1 = .ok (.getfield 26, 3) := by decide +kernel
theorem dX2_nextSign_4 : decode cX2_nextSign 4 = .ok (.getfield 93, 3) := by decide +kernel
theorem dX2_nextSign_7 : decode cX2_nextSign 7 = .ok (.iconst (-1), 1) := by decide +kernel
theorem dX2_nextSign_8 : decode cX2_nextSign 8 = .ok (.if_icmp .eq 5, 3) := by decide +kernel
theorem dX2_nextSign_11 : decode cX2_nextSign 11 = .ok (.iconst (-1), 1) := by decide +kernel
theorem dX2_nextSign_12 : decode cX2_nextSign 12 = .ok (.ireturn, 1) := by decide +kernel
theorem dX2_nextSign_13 : decode cX2_nextSign 13 = .ok (.aload_n 0, 1) := by decide +kernel
theorem dX2_nextSign_14 : decode cX2_nextSign 14 = .ok (.getfield 19, 3) := by decide +kernel
theorem dX2_nextSign_17 : decode cX2_nextSign 17 = .ok (.aload_n 0, 1) := by decide +kernel
theorem dX2_nextSign_18 : decode cX2_nextSign 18 = .ok (.getfield 22, 3) := by decide +kernel
theorem dX2_nextSign_21 : decode cX2_nextSign 21 = .ok (.getfield 96, 3) := by decide +kernel
theorem dX2_nextSign_24 : decode cX2_nextSign 24 = .ok (.if_icmp .ge 32, 3) := by decide +kernel
theorem dX2_nextSign_27 : decode cX2_nextSign 27 = .ok (.aload_n 0, 1) := by decide +kernel
theorem dX2_nextSign_28 : decode cX2_nextSign 28 = .ok (.getfield 22, 3) := by decide +kernel
theorem dX2_nextSign_31 : decode cX2_nextSign 31 = .ok (.aload_n 0, 1) := by decide +kernel
theorem dX2_nextSign_32 : decode cX2_nextSign 32 = .ok (.getfield 19, 3) := by decide +kernel
theorem dX2_nextSign_35 : decode cX2_nextSign 35 = .ok (.invokevirtual 86, 3) := by decide +kernel
theorem dX2_nextSign_38 : decode cX2_nextSign 38 = .ok (.bipush 32, 2) := by decide +kernel
theorem dX2_nextSign_40 : decode cX2_nextSign 40 = .ok (.if_icmp .ne 16, 3) := by decide +kernel
theorem dX2_nextSign_43 : decode cX2_nextSign 43 = .ok (.aload_n 0, 1) := by decide +kernel
theorem dX2_nextSign_44 : decode cX2_nextSign 44 = .ok (.dup, 1) := by decide +kernel
theorem dX2_nextSign_45 : decode cX2_nextSign 45 = .ok (.getfield 19, 3) := by decide +kernel
theorem dX2_nextSign_48 : decode cX2_nextSign 48 = .ok (.iconst 1, 1) := by decide +kernel
theorem dX2_nextSign_49 : decode cX2_nextSign 49 = .ok (.iadd, 1) := by decide +kernel
theorem dX2_nextSign_50 : decode cX2_nextSign 50 = .ok (.putfield 19, 3) := by decide +kernel
theorem dX2_nextSign_53 : decode cX2_nextSign 53 = .ok (.goto (-40), 3) := by decide +kernel
theorem dX2_nextSign_56 : decode cX2_nextSign 56 = .ok (.aload_n 0, 1) := by decide +kernel
theorem dX2_nextSign_57 : decode cX2_nextSign 57 = .ok (.getfield 22, 3) := by decide +kernel
theorem dX2_nextSign_60 : decode cX2_nextSign 60 = .ok (.aload_n 0, 1) := by decide +kernel
theorem dX2_nextSign_61 : decode cX2_nextSign 61 = .ok (.getfield 19, 3) := by decide +kernel
theorem dX2_nextSign_64 : decode cX2_nextSign 64 = .ok (.invokevirtual 86, 3) := by decide +kernel
theorem dX2_nextSign_67 : decode cX2_nextSign 67 = .ok (.ireturn, 1) := by decide +kernel
theorem dX2_refuse_0 : decode cX2_refuse 0 = .ok (.aload_n 0, 1) := by decide +kernel
theorem dX2_refuse_1 : decode cX2_refuse 1 = .ok (.getfield 26, 3) := by decide +kernel
theorem dX2_refuse_4 : decode cX2_refuse 4 = .ok (.getfield 93, 3) := by decide +kernel
theorem dX2_refuse_7 : decode cX2_refuse 7 = .ok (.iconst (-1), 1) := by decide +kernel
theorem dX2_refuse_8 : decode cX2_refuse 8 = .ok (.if_icmp .ne 16, 3) := by decide +kernel
theorem dX2_refuse_11 : decode cX2_refuse 11 = .ok (.aload_n 0, 1) := by decide +kernel
theorem dX2_refuse_12 : decode cX2_refuse 12 = .ok (.getfield 26, 3) := by decide +kernel
theorem dX2_refuse_15 : decode cX2_refuse 15 = .ok (.bipush 10, 2) := by decide +kernel
theorem dX2_refuse_17 : decode cX2_refuse 17 = .ok (.iload_n 1, 1) := by decide +kernel
theorem dX2_refuse_18 : decode cX2_refuse 18 = .ok (.imul, 1) := by decide +kernel
theorem dX2_refuse_19 : decode cX2_refuse 19 = .ok (.iload_n 2, 1) := by decide +kernel
theorem dX2_refuse_20 : decode cX2_refuse 20 = .ok (.iadd, 1) := by decide +kernel
theorem dX2_refuse_21 : decode cX2_refuse 21 = .ok (.putfield 93, 3) := by decide +kernel
theorem dX2_refuse_24 : decode cX2_refuse 24 = .ok (.return_, 1) := by decide +kernel
theorem dX2_isDigit_0 : decode cX2_isDigit 0 = .ok (.iload_n 0, 1) := by decide +kernel
theorem dX2_isDigit_1 : decode cX2_isDigit 1 = .ok (.bipush 48, 2) := by decide +kernel
theorem dX2_isDigit_3 : decode cX2_isDigit 3 = .ok (.if_icmp .lt 13, 3) := by decide +kernel
theorem dX2_isDigit_6 : decode cX2_isDigit 6 = .ok (.iload_n 0, 1) := by decide +kernel
theorem dX2_isDigit_7 : decode cX2_isDigit 7 = .ok (.bipush 57, 2) := by decide +kernel
theorem dX2_isDigit_9 : decode cX2_isDigit 9 = .ok (.if_icmp .gt 7, 3) := by decide +kernel
theorem dX2_isDigit_12 : decode cX2_isDigit 12 = .ok (.iconst 1, 1) := by decide +kernel
theorem dX2_isDigit_13 : decode cX2_isDigit 13 = .ok (.goto 4, 3) := by decide +kernel
theorem dX2_isDigit_16 : decode cX2_isDigit 16 = .ok (.iconst 0, 1) := by decide +kernel
theorem dX2_isDigit_17 : decode cX2_isDigit 17 = .ok (.ireturn, 1) := by decide +kernel
theorem dX2_isLetter_0 : decode cX2_isLetter 0 = .ok (.iload_n 0, 1) := by decide +kernel
theorem dX2_isLetter_1 : decode cX2_isLetter 1 = .ok (.bipush 97, 2) := by decide +kernel
theorem dX2_isLetter_3 : decode cX2_isLetter 3 = .ok (.if_icmp .eq 33, 3) := by decide +kernel
theorem dX2_isLetter_6 : decode cX2_isLetter 6 = .ok (.iload_n 0, 1) := by decide +kernel
theorem dX2_isLetter_7 : decode cX2_isLetter 7 = .ok (.bipush 118, 2) := by decide +kernel
theorem dX2_isLetter_9 : decode cX2_isLetter 9 = .ok (.if_icmp .eq 27, 3) := by decide +kernel
theorem dX2_isLetter_12 : decode cX2_isLetter 12 = .ok (.iload_n 0, 1) := by decide +kernel
theorem dX2_isLetter_13 : decode cX2_isLetter 13 = .ok (.bipush 104, 2) := by decide +kernel
theorem dX2_isLetter_15 : decode cX2_isLetter 15 = .ok (.if_icmp .eq 21, 3) := by decide +kernel
theorem dX2_isLetter_18 : decode cX2_isLetter 18 = .ok (.iload_n 0, 1) := by decide +kernel
theorem dX2_isLetter_19 : decode cX2_isLetter 19 = .ok (.bipush 116, 2) := by decide +kernel
theorem dX2_isLetter_21 : decode cX2_isLetter 21 = .ok (.if_icmp .eq 15, 3) := by decide +kernel
theorem dX2_isLetter_24 : decode cX2_isLetter 24 = .ok (.iload_n 0, 1) := by decide +kernel
theorem dX2_isLetter_25 : decode cX2_isLetter 25 = .ok (.bipush 117, 2) := by decide +kernel
theorem dX2_isLetter_27 : decode cX2_isLetter 27 = .ok (.if_icmp .eq 9, 3) := by decide +kernel
theorem dX2_isLetter_30 : decode cX2_isLetter 30 = .ok (.iload_n 0, 1) := by decide +kernel
theorem dX2_isLetter_31 : decode cX2_isLetter 31 = .ok (.bipush 107, 2) := by decide +kernel
theorem dX2_isLetter_33 : decode cX2_isLetter 33 = .ok (.if_icmp .ne 7, 3) := by decide +kernel
theorem dX2_isLetter_36 : decode cX2_isLetter 36 = .ok (.iconst 1, 1) := by decide +kernel
theorem dX2_isLetter_37 : decode cX2_isLetter 37 = .ok (.goto 4, 3) := by decide +kernel
theorem dX2_isLetter_40 : decode cX2_isLetter 40 = .ok (.iconst 0, 1) := by decide +kernel
theorem dX2_isLetter_41 : decode cX2_isLetter 41 = .ok (.ireturn, 1) := by decide +kernel
theorem dX3_init_0 : decode cX3_init 0 = .ok (.aload_n 0, 1) := by decide +kernel
theorem dX3_init_1 : decode cX3_init 1 = .ok (.invokespecial 3, 3) := by decide +kernel
theorem dX3_init_4 : decode cX3_init 4 = .ok (.aload_n 0, 1) := by decide +kernel
theorem dX3_init_5 : decode cX3_init 5 = .ok (.bipush 8, 2) := by decide +kernel
theorem dX3_init_7 : decode cX3_init 7 = .ok (.newarray .int, 2) := by decide +kernel
theorem dX3_init_9 : decode cX3_init 9 = .ok (.putfield 9, 3) := by decide +kernel
theorem dX3_init_12 : decode cX3_init 12 = .ok (.aload_n 0, 1) := by decide +kernel
theorem dX3_init_13 : decode cX3_init 13 = .ok (.bipush 8, 2) := by decide +kernel
theorem dX3_init_15 : decode cX3_init 15 = .ok (.newarray .int, 2) := by decide +kernel
theorem dX3_init_17 : decode cX3_init 17 = .ok (.putfield 15, 3) := by decide +kernel
theorem dX3_init_20 : decode cX3_init 20 = .ok (.aload_n 0, 1) := by decide +kernel
theorem dX3_init_21 : decode cX3_init 21 = .ok (.iconst 0, 1) := by decide +kernel
theorem dX3_init_22 : decode cX3_init 22 = .ok (.putfield 18, 3) := by decide +kernel
theorem dX3_init_25 : decode cX3_init 25 = .ok (.return_, 1) := by decide +kernel
theorem dX3_add_0 : decode cX3_add 0 = .ok (.aload_n 0, 1) := by decide +kernel
theorem dX3_add_1 : decode cX3_add 1 = .ok (.getfield 18, 3) := by decide +kernel
theorem dX3_add_4 : decode cX3_add 4 = .ok (.bipush 8, 2) := by decide +kernel
theorem dX3_add_6 : decode cX3_add 6 = .ok (.if_icmp .ge 33, 3) := by decide +kernel
theorem dX3_add_9 : decode cX3_add 9 = .ok (.aload_n 0, 1) := by decide +kernel
theorem dX3_add_10 : decode cX3_add 10 = .ok (.getfield 9, 3) := by decide +kernel
theorem dX3_add_13 : decode cX3_add 13 = .ok (.aload_n 0, 1) := by decide +kernel
theorem dX3_add_14 : decode cX3_add 14 = .ok (.getfield 18, 3) := by decide +kernel
theorem dX3_add_17 : decode cX3_add 17 = .ok (.iload_n 1, 1) := by decide +kernel
theorem dX3_add_18 : decode cX3_add 18 = .ok (.iastore, 1) := by decide +kernel
theorem dX3_add_19 : decode cX3_add 19 = .ok (.aload_n 0, 1) := by decide +kernel
theorem dX3_add_20 : decode cX3_add 20 = .ok (.getfield 15, 3) := by decide +kernel
theorem dX3_add_23 : decode cX3_add 23 = .ok (.aload_n 0, 1) := by decide +kernel
theorem dX3_add_24 : decode cX3_add 24 = .ok (.getfield 18, 3) := by decide +kernel
theorem dX3_add_27 : decode cX3_add 27 = .ok (.iload_n 2, 1) := by decide +kernel
theorem dX3_add_28 : decode cX3_add 28 = .ok (.iastore, 1) := by decide +kernel
theorem dX3_add_29 : decode cX3_add 29 = .ok (.aload_n 0, 1) := by decide +kernel
theorem dX3_add_30 : decode cX3_add 30 = .ok (.dup, 1) := by decide +kernel
theorem dX3_add_31 : decode cX3_add 31 = .ok (.getfield 18, 3) := by decide +kernel
theorem dX3_add_34 : decode cX3_add 34 = .ok (.iconst 1, 1) := by decide +kernel
theorem dX3_add_35 : decode cX3_add 35 = .ok (.iadd, 1) := by decide +kernel
theorem dX3_add_36 : decode cX3_add 36 = .ok (.putfield 18, 3) := by decide +kernel
theorem dX3_add_39 : decode cX3_add 39 = .ok (.return_, 1) := by decide +kernel
theorem dX3_forceAt_0 : decode cX3_forceAt 0 = .ok (.iconst 0, 1) := by decide +kernel
theorem dX3_forceAt_1 : decode cX3_forceAt 1 = .ok (.istore_n 2, 1) := by decide +kernel
theorem dX3_forceAt_2 : decode cX3_forceAt 2 = .ok (.iconst 0, 1) := by decide +kernel
theorem dX3_forceAt_3 : decode cX3_forceAt 3 = .ok (.istore_n 3, 1) := by decide +kernel
theorem dX3_forceAt_4 : decode cX3_forceAt 4 = .ok (.iload_n 3, 1) := by decide +kernel
theorem dX3_forceAt_5 : decode cX3_forceAt 5 = .ok (.aload_n 0, 1) := by decide +kernel
theorem dX3_forceAt_6 : decode cX3_forceAt 6 = .ok (.getfield 18, 3) := by decide +kernel
theorem dX3_forceAt_9 : decode cX3_forceAt 9 = .ok (.if_icmp .ge 38, 3) := by decide +kernel
theorem dX3_forceAt_12 : decode cX3_forceAt 12 = .ok (.iload_n 3, 1) := by decide +kernel
theorem dX3_forceAt_13 : decode cX3_forceAt 13 = .ok (.bipush 8, 2) := by decide +kernel
theorem dX3_forceAt_15 : decode cX3_forceAt 15 = .ok (.if_icmp .ge 32, 3) := by decide +kernel
theorem dX3_forceAt_18 : decode cX3_forceAt 18 = .ok (.iload_n 2, 1) := by decide +kernel
theorem dX3_forceAt_19 : decode cX3_forceAt 19 = .ok (.aload_n 0, 1) := by decide +kernel
theorem dX3_forceAt_20 : decode cX3_forceAt 20 = .ok (.getfield 9, 3) := by decide +kernel
theorem dX3_forceAt_23 : decode cX3_forceAt 23 = .ok (.iload_n 3, 1) := by decide +kernel
theorem dX3_forceAt_24 : decode cX3_forceAt 24 = .ok (.iaload, 1) := by decide +kernel
theorem dX3_forceAt_25 : decode cX3_forceAt 25 = .ok (.iload_n 1, 1) := by decide +kernel
theorem dX3_forceAt_26 : decode cX3_forceAt 26 = .ok (.if_icmp .ne 12, 3) := by decide +kernel
theorem dX3_forceAt_29 : decode cX3_forceAt 29 = .ok (.aload_n 0, 1) := by decide +kernel
theorem dX3_forceAt_30 : decode cX3_forceAt 30 = .ok (.getfield 15, 3) := by decide +kernel
theorem dX3_forceAt_33 : decode cX3_forceAt 33 = .ok (.iload_n 3, 1) := by decide +kernel
theorem dX3_forceAt_34 : decode cX3_forceAt 34 = .ok (.iaload, 1) := by decide +kernel
theorem dX3_forceAt_35 : decode cX3_forceAt 35 = .ok (.goto 4, 3) := by decide +kernel
theorem dX3_forceAt_38 : decode cX3_forceAt 38 = .ok (.iconst 0, 1) := by decide +kernel
theorem dX3_forceAt_39 : decode cX3_forceAt 39 = .ok (.iadd, 1) := by decide +kernel
theorem dX3_forceAt_40 : decode cX3_forceAt 40 = .ok (.istore_n 2, 1) := by decide +kernel
theorem dX3_forceAt_41 : decode cX3_forceAt 41 = .ok (.iinc 3 1, 3) := by decide +kernel
theorem dX3_forceAt_44 : decode cX3_forceAt 44 = .ok (.goto (-40), 3) := by decide +kernel
theorem dX3_forceAt_47 : decode cX3_forceAt 47 = .ok (.iload_n 2, 1) := by decide +kernel
theorem dX3_forceAt_48 : decode cX3_forceAt 48 = .ok (.ireturn, 1) := by decide +kernel
theorem dX3_become_0 : decode cX3_become 0 = .ok (.aload_n 1, 1) := by decide +kernel
theorem dX3_become_1 : decode cX3_become 1 = .ok (.getfield 9, 3) := by decide +kernel
theorem dX3_become_4 : decode cX3_become 4 = .ok (.iconst 0, 1) := by decide +kernel
theorem dX3_become_5 : decode cX3_become 5 = .ok (.aload_n 0, 1) := by decide +kernel
theorem dX3_become_6 : decode cX3_become 6 = .ok (.getfield 9, 3) := by decide +kernel
theorem dX3_become_9 : decode cX3_become 9 = .ok (.iconst 0, 1) := by decide +kernel
theorem dX3_become_10 : decode cX3_become 10 = .ok (.bipush 8, 2) := by decide +kernel
theorem dX3_become_12 : decode cX3_become 12 = .ok (.invokestatic 22, 3) := by decide +kernel
theorem dX3_become_15 : decode cX3_become 15 = .ok (.aload_n 1, 1) := by decide +kernel
theorem dX3_become_16 : decode cX3_become 16 = .ok (.getfield 15, 3) := by decide +kernel
theorem dX3_become_19 : decode cX3_become 19 = .ok (.iconst 0, 1) := by decide +kernel
theorem dX3_become_20 : decode cX3_become 20 = .ok (.aload_n 0, 1) := by decide +kernel
theorem dX3_become_21 : decode cX3_become 21 = .ok (.getfield 15, 3) := by decide +kernel
theorem dX3_become_24 : decode cX3_become 24 = .ok (.iconst 0, 1) := by decide +kernel
theorem dX3_become_25 : decode cX3_become 25 = .ok (.bipush 8, 2) := by decide +kernel
theorem dX3_become_27 : decode cX3_become 27 = .ok (.invokestatic 22, 3) := by decide +kernel
theorem dX3_become_30 : decode cX3_become 30 = .ok (.aload_n 0, 1) := by decide +kernel
theorem dX3_become_31 : decode cX3_become 31 = .ok (.aload_n 1, 1) := by decide +kernel
theorem dX3_become_32 : decode cX3_become 32 = .ok (.getfield 18, 3) := by decide +kernel
theorem dX3_become_35 : decode cX3_become 35 = .ok (.putfield 18, 3) := by decide +kernel
theorem dX3_become_38 : decode cX3_become 38 = .ok (.return_, 1) := by decide +kernel
theorem dX3_digestOnto_0 : decode cX3_digestOnto 0 = .ok (.lload_n 1, 1) := by decide +kernel
theorem dX3_digestOnto_1 : decode cX3_digestOnto 1 = .ok (.lstore_n 3, 1) := by decide +kernel
theorem dX3_digestOnto_2 : decode cX3_digestOnto 2 = .ok (.iconst 0, 1) := by decide +kernel
theorem dX3_digestOnto_3 : decode cX3_digestOnto 3 = .ok (.istore 5, 2) := by decide +kernel
theorem dX3_digestOnto_5 : decode cX3_digestOnto 5 = .ok (.iload 5, 2) := by decide +kernel
theorem dX3_digestOnto_7 : decode cX3_digestOnto 7 = .ok (.aload_n 0, 1) := by decide +kernel
theorem dX3_digestOnto_8 : decode cX3_digestOnto 8 = .ok (.getfield 18, 3) := by decide +kernel
theorem dX3_digestOnto_11 : decode cX3_digestOnto 11 = .ok (.if_icmp .ge 46, 3) := by decide +kernel
theorem dX3_digestOnto_14 : decode cX3_digestOnto 14 = .ok (.iload 5, 2) := by decide +kernel
theorem dX3_digestOnto_16 : decode cX3_digestOnto 16 = .ok (.bipush 8, 2) := by decide +kernel
theorem dX3_digestOnto_18 : decode cX3_digestOnto 18 = .ok (.if_icmp .ge 39, 3) := by decide +kernel
theorem dX3_digestOnto_21 : decode cX3_digestOnto 21 = .ok (.ldc2_w 28, 3) := by decide +kernel
theorem dX3_digestOnto_24 : decode cX3_digestOnto 24 = .ok (.lload_n 3, 1) := by decide +kernel
theorem dX3_digestOnto_25 : decode cX3_digestOnto 25 = .ok (.lmul, 1) := by decide +kernel
theorem dX3_digestOnto_26 : decode cX3_digestOnto 26 = .ok (.aload_n 0, 1) := by decide +kernel
theorem dX3_digestOnto_27 : decode cX3_digestOnto 27 = .ok (.getfield 9, 3) := by decide +kernel
theorem dX3_digestOnto_30 : decode cX3_digestOnto 30 = .ok (.iload 5, 2) := by decide +kernel
theorem dX3_digestOnto_32 : decode cX3_digestOnto 32 = .ok (.iaload, 1) := by decide +kernel
theorem dX3_digestOnto_33 : decode cX3_digestOnto 33 = .ok (.i2l, 1) := by decide +kernel
theorem dX3_digestOnto_34 : decode cX3_digestOnto 34 = .ok (.ladd, 1) := by decide +kernel
theorem dX3_digestOnto_35 : decode cX3_digestOnto 35 = .ok (.lstore_n 3, 1) := by decide +kernel
