theorem dX3_digestOnto_36 : decode cX3_digestOnto 36 = .ok (.ldc2_w 28, 3) := by decide +kernel
theorem dX3_digestOnto_39 : decode cX3_digestOnto 39 = .ok (.lload_n 3, 1) := by decide +kernel
theorem dX3_digestOnto_40 : decode cX3_digestOnto 40 = .ok (.lmul, 1) := by decide +kernel
theorem dX3_digestOnto_41 : decode cX3_digestOnto 41 = .ok (.aload_n 0, 1) := by decide +kernel
theorem dX3_digestOnto_42 : decode cX3_digestOnto 42 = .ok (.getfield 15, 3) := by decide +kernel
theorem dX3_digestOnto_45 : decode cX3_digestOnto 45 = .ok (.iload 5, 2) := by decide +kernel
theorem dX3_digestOnto_47 : decode cX3_digestOnto 47 = .ok (.iaload, 1) := by decide +kernel
theorem dX3_digestOnto_48 : decode cX3_digestOnto 48 = .ok (.i2l, 1) := by decide +kernel
theorem dX3_digestOnto_49 : decode cX3_digestOnto 49 = .ok (.ladd, 1) := by decide +kernel
theorem dX3_digestOnto_50 : decode cX3_digestOnto 50 = .ok (.lstore_n 3, 1) := by decide +kernel
theorem dX3_digestOnto_51 : decode cX3_digestOnto 51 = .ok (.iinc 5 1, 3) := by decide +kernel
theorem dX3_digestOnto_54 : decode cX3_digestOnto 54 = .ok (.goto (-49), 3) := by decide +kernel
theorem dX3_digestOnto_57 : decode cX3_digestOnto 57 = .ok (.lload_n 3, 1) := by decide +kernel
theorem dX3_digestOnto_58 : decode cX3_digestOnto 58 = .ok (.lreturn, 1) := by decide +kernel
theorem dX4_init_0 : decode cX4_init 0 = .ok (.aload_n 0, 1) := by decide +kernel
theorem dX4_init_1 : decode cX4_init 1 = .ok (.invokespecial 3, 3) := by decide +kernel
theorem dX4_init_4 : decode cX4_init 4 = .ok (.aload_n 0, 1) := by decide +kernel
theorem dX4_init_5 : decode cX4_init 5 = .ok (.getstatic 9, 3) := by decide +kernel
theorem dX4_init_8 : decode cX4_init 8 = .ok (.invokevirtual 13, 3) := by decide +kernel
theorem dX4_init_11 : decode cX4_init 11 = .ok (.checkcast 14, 3) := by decide +kernel
theorem dX4_init_14 : decode cX4_init 14 = .ok (.putfield 18, 3) := by decide +kernel
theorem dX4_init_17 : decode cX4_init 17 = .ok (.aload_n 0, 1) := by decide +kernel
theorem dX4_init_18 : decode cX4_init 18 = .ok (.new 23, 3) := by decide +kernel
theorem dX4_init_21 : decode cX4_init 21 = .ok (.dup, 1) := by decide +kernel
theorem dX4_init_22 : decode cX4_init 22 = .ok (.invokespecial 25, 3) := by decide +kernel
theorem dX4_init_25 : decode cX4_init 25 = .ok (.putfield 26, 3) := by decide +kernel
theorem dX4_init_28 : decode cX4_init 28 = .ok (.aload_n 0, 1) := by decide +kernel
theorem dX4_init_29 : decode cX4_init 29 = .ok (.new 30, 3) := by decide +kernel
theorem dX4_init_32 : decode cX4_init 32 = .ok (.dup, 1) := by decide +kernel
theorem dX4_init_33 : decode cX4_init 33 = .ok (.invokespecial 32, 3) := by decide +kernel
theorem dX4_init_36 : decode cX4_init 36 = .ok (.putfield 33, 3) := by decide +kernel
theorem dX4_init_39 : decode cX4_init 39 = .ok (.aload_n 0, 1) := by decide +kernel
theorem dX4_init_40 : decode cX4_init 40 = .ok (.new 37, 3) := by decide +kernel
theorem dX4_init_43 : decode cX4_init 43 = .ok (.dup, 1) := by decide +kernel
theorem dX4_init_44 : decode cX4_init 44 = .ok (.invokespecial 39, 3) := by decide +kernel
theorem dX4_init_47 : decode cX4_init 47 = .ok (.putfield 40, 3) := by decide +kernel
theorem dX4_init_50 : decode cX4_init 50 = .ok (.aload_n 0, 1) := by decide +kernel
theorem dX4_init_51 : decode cX4_init 51 = .ok (.new 44, 3) := by decide +kernel
theorem dX4_init_54 : decode cX4_init 54 = .ok (.dup, 1) := by decide +kernel
theorem dX4_init_55 : decode cX4_init 55 = .ok (.invokespecial 46, 3) := by decide +kernel
theorem dX4_init_58 : decode cX4_init 58 = .ok (.putfield 47, 3) := by decide +kernel
theorem dX4_init_61 : decode cX4_init 61 = .ok (.return_, 1) := by decide +kernel
theorem dX4_become_0 : decode cX4_become 0 = .ok (.aload_n 1, 1) := by decide +kernel
theorem dX4_become_1 : decode cX4_become 1 = .ok (.getfield 18, 3) := by decide +kernel
theorem dX4_become_4 : decode cX4_become 4 = .ok (.iconst 0, 1) := by decide +kernel
theorem dX4_become_5 : decode cX4_become 5 = .ok (.aload_n 0, 1) := by decide +kernel
theorem dX4_become_6 : decode cX4_become 6 = .ok (.getfield 18, 3) := by decide +kernel
theorem dX4_become_9 : decode cX4_become 9 = .ok (.iconst 0, 1) := by decide +kernel
theorem dX4_become_10 : decode cX4_become 10 = .ok (.bipush 8, 2) := by decide +kernel
theorem dX4_become_12 : decode cX4_become 12 = .ok (.invokestatic 51, 3) := by decide +kernel
theorem dX4_become_15 : decode cX4_become 15 = .ok (.aload_n 0, 1) := by decide +kernel
theorem dX4_become_16 : decode cX4_become 16 = .ok (.getfield 26, 3) := by decide +kernel
theorem dX4_become_19 : decode cX4_become 19 = .ok (.aload_n 1, 1) := by decide +kernel
theorem dX4_become_20 : decode cX4_become 20 = .ok (.getfield 26, 3) := by decide +kernel
theorem dX4_become_23 : decode cX4_become 23 = .ok (.invokevirtual 57, 3) := by decide +kernel
theorem dX4_become_26 : decode cX4_become 26 = .ok (.aload_n 0, 1) := by decide +kernel
theorem dX4_become_27 : decode cX4_become 27 = .ok (.getfield 33, 3) := by decide +kernel
theorem dX4_become_30 : decode cX4_become 30 = .ok (.aload_n 1, 1) := by decide +kernel
theorem dX4_become_31 : decode cX4_become 31 = .ok (.getfield 33, 3) := by decide +kernel
theorem dX4_become_34 : decode cX4_become 34 = .ok (.invokevirtual 61, 3) := by decide +kernel
theorem dX4_become_37 : decode cX4_become 37 = .ok (.aload_n 0, 1) := by decide +kernel
theorem dX4_become_38 : decode cX4_become 38 = .ok (.getfield 40, 3) := by decide +kernel
theorem dX4_become_41 : decode cX4_become 41 = .ok (.aload_n 1, 1) := by decide +kernel
theorem dX4_become_42 : decode cX4_become 42 = .ok (.getfield 40, 3) := by decide +kernel
theorem dX4_become_45 : decode cX4_become 45 = .ok (.invokevirtual 64, 3) := by decide +kernel
theorem dX4_become_48 : decode cX4_become 48 = .ok (.aload_n 0, 1) := by decide +kernel
theorem dX4_become_49 : decode cX4_become 49 = .ok (.getfield 47, 3) := by decide +kernel
theorem dX4_become_52 : decode cX4_become 52 = .ok (.aload_n 1, 1) := by decide +kernel
theorem dX4_become_53 : decode cX4_become 53 = .ok (.getfield 47, 3) := by decide +kernel
theorem dX4_become_56 : decode cX4_become 56 = .ok (.invokevirtual 67, 3) := by decide +kernel
theorem dX4_become_59 : decode cX4_become 59 = .ok (.return_, 1) := by decide +kernel
theorem dX5_init_0 : decode cX5_init 0 = .ok (.aload_n 0, 1) := by decide +kernel
theorem dX5_init_1 : decode cX5_init 1 = .ok (.invokespecial 3, 3) := by decide +kernel
theorem dX5_init_4 : decode cX5_init 4 = .ok (.aload_n 0, 1) := by decide +kernel
theorem dX5_init_5 : decode cX5_init 5 = .ok (.bipush 60, 2) := by decide +kernel
theorem dX5_init_7 : decode cX5_init 7 = .ok (.newarray .int, 2) := by decide +kernel
theorem dX5_init_9 : decode cX5_init 9 = .ok (.putfield 9, 3) := by decide +kernel
theorem dX5_init_12 : decode cX5_init 12 = .ok (.aload_n 0, 1) := by decide +kernel
theorem dX5_init_13 : decode cX5_init 13 = .ok (.iconst 0, 1) := by decide +kernel
theorem dX5_init_14 : decode cX5_init 14 = .ok (.putfield 15, 3) := by decide +kernel
theorem dX5_init_17 : decode cX5_init 17 = .ok (.return_, 1) := by decide +kernel
theorem dX5_add_0 : decode cX5_add 0 = .ok (.aload_n 0, 1) := by decide +kernel
theorem dX5_add_1 : decode cX5_add 1 = .ok (.getfield 15, 3) := by decide +kernel
theorem dX5_add_4 : decode cX5_add 4 = .ok (.bipush 60, 2) := by decide +kernel
theorem dX5_add_6 : decode cX5_add 6 = .ok (.if_icmp .ge 23, 3) := by decide +kernel
theorem dX5_add_9 : decode cX5_add 9 = .ok (.aload_n 0, 1) := by decide +kernel
theorem dX5_add_10 : decode cX5_add 10 = .ok (.getfield 9, 3) := by decide +kernel
theorem dX5_add_13 : decode cX5_add 13 = .ok (.aload_n 0, 1) := by decide +kernel
theorem dX5_add_14 : decode cX5_add 14 = .ok (.getfield 15, 3) := by decide +kernel
theorem dX5_add_17 : decode cX5_add 17 = .ok (.iload_n 1, 1) := by decide +kernel
theorem dX5_add_18 : decode cX5_add 18 = .ok (.iastore, 1) := by decide +kernel
theorem dX5_add_19 : decode cX5_add 19 = .ok (.aload_n 0, 1) := by decide +kernel
theorem dX5_add_20 : decode cX5_add 20 = .ok (.dup, 1) := by decide +kernel
theorem dX5_add_21 : decode cX5_add 21 = .ok (.getfield 15, 3) := by decide +kernel
theorem dX5_add_24 : decode cX5_add 24 = .ok (.iconst 1, 1) := by decide +kernel
theorem dX5_add_25 : decode cX5_add 25 = .ok (.iadd, 1) := by decide +kernel
theorem dX5_add_26 : decode cX5_add 26 = .ok (.putfield 15, 3) := by decide +kernel
theorem dX5_add_29 : decode cX5_add 29 = .ok (.return_, 1) := by decide +kernel
theorem dX5_signAt_0 : decode cX5_signAt 0 = .ok (.iload_n 1, 1) := by decide +kernel
theorem dX5_signAt_1 : decode cX5_signAt 1 = .ok (.ifCond .lt 20, 3) := by decide +kernel
theorem dX5_signAt_4 : decode cX5_signAt 4 = .ok (.iload_n 1, 1) := by decide +kernel
theorem dX5_signAt_5 : decode cX5_signAt 5 = .ok (.aload_n 0, 1) := by decide +kernel
theorem dX5_signAt_6 : decode cX5_signAt 6 = .ok (.getfield 15, 3) := by decide +kernel
theorem dX5_signAt_9 : decode cX5_signAt 9 = .ok (.if_icmp .ge 12, 3) := by decide +kernel
theorem dX5_signAt_12 : decode cX5_signAt 12 = .ok (.aload_n 0, 1) := by decide +kernel
theorem dX5_signAt_13 : decode cX5_signAt 13 = .ok (.getfield 9, 3) := by decide +kernel
theorem dX5_signAt_16 : decode cX5_signAt 16 = .ok (.iload_n 1, 1) := by decide +kernel
theorem dX5_signAt_17 : decode cX5_signAt 17 = .ok (.iaload, 1) := by decide +kernel
theorem dX5_signAt_18 : decode cX5_signAt 18 = .ok (.goto 4, 3) := by decide +kernel
theorem dX5_signAt_21 : decode cX5_signAt 21 = .ok (.iconst (-1), 1) := by decide +kernel
theorem dX5_signAt_22 : decode cX5_signAt 22 = .ok (.ireturn, 1) := by decide +kernel
theorem dX5_become_0 : decode cX5_become 0 = .ok (.aload_n 1, 1) := by decide +kernel
theorem dX5_become_1 : decode cX5_become 1 = .ok (.getfield 9, 3) := by decide +kernel
theorem dX5_become_4 : decode cX5_become 4 = .ok (.iconst 0, 1) := by decide +kernel
theorem dX5_become_5 : decode cX5_become 5 = .ok (.aload_n 0, 1) := by decide +kernel
theorem dX5_become_6 : decode cX5_become 6 = .ok (.getfield 9, 3) := by decide +kernel
theorem dX5_become_9 : decode cX5_become 9 = .ok (.iconst 0, 1) := by decide +kernel
theorem dX5_become_10 : decode cX5_become 10 = .ok (.bipush 60, 2) := by decide +kernel
theorem dX5_become_12 : decode cX5_become 12 = .ok (.invokestatic 19, 3) := by decide +kernel
theorem dX5_become_15 : decode cX5_become 15 = .ok (.aload_n 0, 1) := by decide +kernel
theorem dX5_become_16 : decode cX5_become 16 = .ok (.aload_n 1, 1) := by decide +kernel
theorem dX5_become_17 : decode cX5_become 17 = .ok (.getfield 15, 3) := by decide +kernel
theorem dX5_become_20 : decode cX5_become 20 = .ok (.putfield 15, 3) := by decide +kernel
theorem dX5_become_23 : decode cX5_become 23 = .ok (.return_, 1) := by decide +kernel
theorem dX5_digestOnto_0 : decode cX5_digestOnto 0 = .ok (.ldc2_w 25, 3) := by decide +kernel
theorem dX5_digestOnto_3 : decode cX5_digestOnto 3 = .ok (.lload_n 1, 1) := by decide +kernel
theorem dX5_digestOnto_4 : decode cX5_digestOnto 4 = .ok (.lmul, 1) := by decide +kernel
theorem dX5_digestOnto_5 : decode cX5_digestOnto 5 = .ok (.aload_n 0, 1) := by decide +kernel
theorem dX5_digestOnto_6 : decode cX5_digestOnto 6 = .ok (.getfield 15, 3) := by decide +kernel
theorem dX5_digestOnto_9 : decode cX5_digestOnto 9 = .ok (.i2l, 1) := by decide +kernel
theorem dX5_digestOnto_10 : decode cX5_digestOnto 10 = .ok (.ladd, 1) := by decide +kernel
theorem dX5_digestOnto_11 : decode cX5_digestOnto 11 = .ok (.lstore_n 3, 1) := by decide +kernel
theorem dX5_digestOnto_12 : decode cX5_digestOnto 12 = .ok (.iconst 0, 1) := by decide +kernel
theorem dX5_digestOnto_13 : decode cX5_digestOnto 13 = .ok (.istore 5, 2) := by decide +kernel
theorem dX5_digestOnto_15 : decode cX5_digestOnto 15 = .ok (.iload 5, 2) := by decide +kernel
theorem dX5_digestOnto_17 : decode cX5_digestOnto 17 = .ok (.aload_n 0, 1) := by decide +kernel
theorem dX5_digestOnto_18 : decode cX5_digestOnto 18 = .ok (.getfield 15, 3) := by decide +kernel
theorem dX5_digestOnto_21 : decode cX5_digestOnto 21 = .ok (.if_icmp .ge 23, 3) := by decide +kernel
theorem dX5_digestOnto_24 : decode cX5_digestOnto 24 = .ok (.ldc2_w 25, 3) := by decide +kernel
theorem dX5_digestOnto_27 : decode cX5_digestOnto 27 = .ok (.lload_n 3, 1) := by decide +kernel
theorem dX5_digestOnto_28 : decode cX5_digestOnto 28 = .ok (.lmul, 1) := by decide +kernel
theorem dX5_digestOnto_29 : decode cX5_digestOnto 29 = .ok (.aload_n 0, 1) := by decide +kernel
theorem dX5_digestOnto_30 : decode cX5_digestOnto 30 = .ok (.iload 5, 2) := by decide +kernel
theorem dX5_digestOnto_32 : decode cX5_digestOnto 32 = .ok (.invokevirtual 27, 3) := by decide +kernel
theorem dX5_digestOnto_35 : decode cX5_digestOnto 35 = .ok (.i2l, 1) := by decide +kernel
theorem dX5_digestOnto_36 : decode cX5_digestOnto 36 = .ok (.ladd, 1) := by decide +kernel
theorem dX5_digestOnto_37 : decode cX5_digestOnto 37 = .ok (.lstore_n 3, 1) := by decide +kernel
theorem dX5_digestOnto_38 : decode cX5_digestOnto 38 = .ok (.iinc 5 1, 3) := by decide +kernel
theorem dX5_digestOnto_41 : decode cX5_digestOnto 41 = .ok (.goto (-26), 3) := by decide +kernel
theorem dX5_digestOnto_44 : decode cX5_digestOnto 44 = .ok (.lload_n 3, 1) := by decide +kernel
theorem dX5_digestOnto_45 : decode cX5_digestOnto 45 = .ok (.lreturn, 1) := by decide +kernel
theorem dX6_init_0 : decode cX6_init 0 = .ok (.aload_n 0, 1) := by decide +kernel
theorem dX6_init_1 : decode cX6_init 1 = .ok (.invokespecial 3, 3) := by decide +kernel
theorem dX6_init_4 : decode cX6_init 4 = .ok (.aload_n 0, 1) := by decide +kernel
theorem dX6_init_5 : decode cX6_init 5 = .ok (.bipush 40, 2) := by decide +kernel
theorem dX6_init_7 : decode cX6_init 7 = .ok (.newarray .int, 2) := by decide +kernel
theorem dX6_init_9 : decode cX6_init 9 = .ok (.putfield 9, 3) := by decide +kernel
theorem dX6_init_12 : decode cX6_init 12 = .ok (.aload_n 0, 1) := by decide +kernel
theorem dX6_init_13 : decode cX6_init 13 = .ok (.iconst 0, 1) := by decide +kernel
theorem dX6_init_14 : decode cX6_init 14 = .ok (.putfield 15, 3) := by decide +kernel
theorem dX6_init_17 : decode cX6_init 17 = .ok (.return_, 1) := by decide +kernel
theorem dX6_add_0 : decode cX6_add 0 = .ok (.aload_n 0, 1) := by decide +kernel
theorem dX6_add_1 : decode cX6_add 1 = .ok (.getfield 9, 3) := by decide +kernel
theorem dX6_add_4 : decode cX6_add 4 = .ok (.aload_n 0, 1) := by decide +kernel
theorem dX6_add_5 : decode cX6_add 5 = .ok (.getfield 15, 3) := by decide +kernel
theorem dX6_add_8 : decode cX6_add 8 = .ok (.bipush 40, 2) := by decide +kernel
theorem dX6_add_10 : decode cX6_add 10 = .ok (.invokestatic 19, 3) := by decide +kernel
theorem dX6_add_13 : decode cX6_add 13 = .ok (.iload_n 1, 1) := by decide +kernel
theorem dX6_add_14 : decode cX6_add 14 = .ok (.iastore, 1) := by decide +kernel
theorem dX6_add_15 : decode cX6_add 15 = .ok (.aload_n 0, 1) := by decide +kernel
theorem dX6_add_16 : decode cX6_add 16 = .ok (.dup, 1) := by decide +kernel
theorem dX6_add_17 : decode cX6_add 17 = .ok (.getfield 15, 3) := by decide +kernel
theorem dX6_add_20 : decode cX6_add 20 = .ok (.iconst 1, 1) := by decide +kernel
theorem dX6_add_21 : decode cX6_add 21 = .ok (.iadd, 1) := by decide +kernel
theorem dX6_add_22 : decode cX6_add 22 = .ok (.putfield 15, 3) := by decide +kernel
theorem dX6_add_25 : decode cX6_add 25 = .ok (.return_, 1) := by decide +kernel
theorem dX6_beforeLast_0 : decode cX6_beforeLast 0 = .ok (.iload_n 1, 1) := by decide +kernel
theorem dX6_beforeLast_1 : decode cX6_beforeLast 1 = .ok (.ifCond .lt 17, 3) := by decide +kernel
theorem dX6_beforeLast_4 : decode cX6_beforeLast 4 = .ok (.iload_n 1, 1) := by decide +kernel
theorem dX6_beforeLast_5 : decode cX6_beforeLast 5 = .ok (.bipush 40, 2) := by decide +kernel
theorem dX6_beforeLast_7 : decode cX6_beforeLast 7 = .ok (.if_icmp .ge 11, 3) := by decide +kernel
theorem dX6_beforeLast_10 : decode cX6_beforeLast 10 = .ok (.iload_n 1, 1) := by decide +kernel
theorem dX6_beforeLast_11 : decode cX6_beforeLast 11 = .ok (.aload_n 0, 1) := by decide +kernel
theorem dX6_beforeLast_12 : decode cX6_beforeLast 12 = .ok (.getfield 15, 3) := by decide +kernel
theorem dX6_beforeLast_15 : decode cX6_beforeLast 15 = .ok (.if_icmp .lt 5, 3) := by decide +kernel
theorem dX6_beforeLast_18 : decode cX6_beforeLast 18 = .ok (.iconst (-1), 1) := by decide +kernel
theorem dX6_beforeLast_19 : decode cX6_beforeLast 19 = .ok (.ireturn, 1) := by decide +kernel
theorem dX6_beforeLast_20 : decode cX6_beforeLast 20 = .ok (.aload_n 0, 1) := by decide +kernel
theorem dX6_beforeLast_21 : decode cX6_beforeLast 21 = .ok (.getfield 9, 3) := by decide +kernel
theorem dX6_beforeLast_24 : decode cX6_beforeLast 24 = .ok (.aload_n 0, 1) := by decide +kernel
theorem dX6_beforeLast_25 : decode cX6_beforeLast 25 = .ok (.getfield 15, 3) := by decide +kernel
theorem dX6_beforeLast_28 : decode cX6_beforeLast 28 = .ok (.iconst 1, 1) := by decide +kernel
theorem dX6_beforeLast_29 : decode cX6_beforeLast 29 = .ok (.isub, 1) := by decide +kernel
theorem dX6_beforeLast_30 : decode cX6_beforeLast 30 = .ok (.iload_n 1, 1) := by decide +kernel
theorem dX6_beforeLast_31 : decode cX6_beforeLast 31 = .ok (.isub, 1) := by decide +kernel
theorem dX6_beforeLast_32 : decode cX6_beforeLast 32 = .ok (.bipush 40, 2) := by decide +kernel
theorem dX6_beforeLast_34 : decode cX6_beforeLast 34 = .ok (.invokestatic 19, 3) := by decide +kernel
theorem dX6_beforeLast_37 : decode cX6_beforeLast 37 = .ok (.iaload, 1) := by decide +kernel
theorem dX6_beforeLast_38 : decode cX6_beforeLast 38 = .ok (.ireturn, 1) := by decide +kernel
theorem dX6_clear_0 : decode cX6_clear 0 = .ok (.aload_n 0, 1) := by decide +kernel
theorem dX6_clear_1 : decode cX6_clear 1 = .ok (.iconst 0, 1) := by decide +kernel
theorem dX6_clear_2 : decode cX6_clear 2 = .ok (.putfield 15, 3) := by decide +kernel
theorem dX6_clear_5 : decode cX6_clear 5 = .ok (.return_, 1) := by decide +kernel
theorem dX6_become_0 : decode cX6_become 0 = .ok (.aload_n 1, 1) := by decide +kernel
theorem dX6_become_1 : decode cX6_become 1 = .ok (.getfield 9, 3) := by decide +kernel
theorem dX6_become_4 : decode cX6_become 4 = .ok (.iconst 0, 1) := by decide +kernel
theorem dX6_become_5 : decode cX6_become 5 = .ok (.aload_n 0, 1) := by decide +kernel
theorem dX6_become_6 : decode cX6_become 6 = .ok (.getfield 9, 3) := by decide +kernel
theorem dX6_become_9 : decode cX6_become 9 = .ok (.iconst 0, 1) := by decide +kernel
theorem dX6_become_10 : decode cX6_become 10 = .ok (.bipush 40, 2) := by decide +kernel
theorem dX6_become_12 : decode cX6_become 12 = .ok (.invokestatic 25, 3) := by decide +kernel
theorem dX6_become_15 : decode cX6_become 15 = .ok (.aload_n 0, 1) := by decide +kernel
theorem dX6_become_16 : decode cX6_become 16 = .ok (.aload_n 1, 1) := by decide +kernel
theorem dX6_become_17 : decode cX6_become 17 = .ok (.getfield 15, 3) := by decide +kernel
theorem dX6_become_20 : decode cX6_become 20 = .ok (.putfield 15, 3) := by decide +kernel
theorem dX6_become_23 : decode cX6_become 23 = .ok (.return_, 1) := by decide +kernel
theorem dX7_init_0 : decode cX7_init 0 = .ok (.aload_n 0, 1) := by decide +kernel
theorem dX7_init_1 : decode cX7_init 1 = .ok (.invokespecial 1, 3) := by decide +kernel
theorem dX7_init_4 : decode cX7_init 4 = .ok (.aload_n 0, 1) := by decide +kernel
theorem dX7_init_5 : decode cX7_init 5 = .ok (.new 7, 3) := by decide +kernel
theorem dX7_init_8 : decode cX7_init 8 = .ok (.dup, 1) := by decide +kernel
theorem dX7_init_9 : decode cX7_init 9 = .ok (.invokespecial 9, 3) := by decide +kernel
theorem dX7_init_12 : decode cX7_init 12 = .ok (.putfield 10, 3) := by decide +kernel
theorem dX7_init_15 : decode cX7_init 15 = .ok (.aload_n 0, 1) := by decide +kernel
theorem dX7_init_16 : decode cX7_init 16 = .ok (.iconst 2, 1) := by decide +kernel
theorem dX7_init_17 : decode cX7_init 17 = .ok (.anewarray 7, 3) := by decide +kernel
theorem dX7_init_20 : decode cX7_init 20 = .ok (.putfield 16, 3) := by decide +kernel
theorem dX7_init_23 : decode cX7_init 23 = .ok (.aload_n 0, 1) := by decide +kernel
theorem dX7_init_24 : decode cX7_init 24 = .ok (.iconst 2, 1) := by decide +kernel
theorem dX7_init_25 : decode cX7_init 25 = .ok (.newarray .boolean, 2) := by decide +kernel
theorem dX7_init_27 : decode cX7_init 27 = .ok (.putfield 20, 3) := by decide +kernel
theorem dX7_init_30 : decode cX7_init 30 = .ok (.aload_n 0, 1) := by decide +kernel
theorem dX7_init_31 : decode cX7_init 31 = .ok (.new 24, 3) := by decide +kernel
theorem dX7_init_34 : decode cX7_init 34 = .ok (.dup, 1) := by decide +kernel
theorem dX7_init_35 : decode cX7_init 35 = .ok (.invokespecial 26, 3) := by decide +kernel
theorem dX7_init_38 : decode cX7_init 38 = .ok (.putfield 27, 3) := by decide +kernel
theorem dX7_init_41 : decode cX7_init 41 = .ok (.aload_n 0, 1) := by decide +kernel
theorem dX7_init_42 : decode cX7_init 42 = .ok (.new 31, 3) := by decide +kernel
theorem dX7_init_45 : decode cX7_init 45 = .ok (.dup, 1) := by decide +kernel
theorem dX7_init_46 : decode cX7_init 46 = .ok (.aload_n 0, 1) := by decide +kernel
theorem dX7_init_47 : decode cX7_init 47 = .ok (.getfield 10, 3) := by decide +kernel
theorem dX7_init_50 : decode cX7_init 50 = .ok (.getfield 33, 3) := by decide +kernel
theorem dX7_init_53 : decode cX7_init 53 = .ok (.aload_n 0, 1) := by decide +kernel
theorem dX7_init_54 : decode cX7_init 54 = .ok (.getfield 27, 3) := by decide +kernel
theorem dX7_init_57 : decode cX7_init 57 = .ok (.invokespecial 37, 3) := by decide +kernel
theorem dX7_init_60 : decode cX7_init 60 = .ok (.putfield 40, 3) := by decide +kernel
theorem dX7_init_63 : decode cX7_init 63 = .ok (.aload_n 0, 1) := by decide +kernel
theorem dX7_init_64 : decode cX7_init 64 = .ok (.new 44, 3) := by decide +kernel
theorem dX7_init_67 : decode cX7_init 67 = .ok (.dup, 1) := by decide +kernel
theorem dX7_init_68 : decode cX7_init 68 = .ok (.invokespecial 46, 3) := by decide +kernel
theorem dX7_init_71 : decode cX7_init 71 = .ok (.putfield 47, 3) := by decide +kernel
theorem dX7_init_74 : decode cX7_init 74 = .ok (.aload_n 0, 1) := by decide +kernel
theorem dX7_init_75 : decode cX7_init 75 = .ok (.bipush 6, 2) := by decide +kernel
theorem dX7_init_77 : decode cX7_init 77 = .ok (.anewarray 44, 3) := by decide +kernel
theorem dX7_init_80 : decode cX7_init 80 = .ok (.putfield 51, 3) := by decide +kernel
theorem dX7_init_83 : decode cX7_init 83 = .ok (.aload_n 0, 1) := by decide +kernel
theorem dX7_init_84 : decode cX7_init 84 = .ok (.iconst 5, 1) := by decide +kernel
theorem dX7_init_85 : decode cX7_init 85 = .ok (.newarray .int, 2) := by decide +kernel
theorem dX7_init_87 : decode cX7_init 87 = .ok (.putfield 55, 3) := by decide +kernel
theorem dX7_init_90 : decode cX7_init 90 = .ok (.aload_n 0, 1) := by decide +kernel
theorem dX7_init_91 : decode cX7_init 91 = .ok (.iconst 5, 1) := by decide +kernel
theorem dX7_init_92 : decode cX7_init 92 = .ok (.newarray .int, 2) := by decide +kernel
theorem dX7_init_94 : decode cX7_init 94 = .ok (.putfield 59, 3) := by decide +kernel
theorem dX7_init_97 : decode cX7_init 97 = .ok (.aload_n 0, 1) := by decide +kernel
theorem dX7_init_98 : decode cX7_init 98 = .ok (.iconst (-1), 1) := by decide +kernel
theorem dX7_init_99 : decode cX7_init 99 = .ok (.putfield 62, 3) := by decide +kernel
theorem dX7_init_102 : decode cX7_init 102 = .ok (.aload_n 0, 1) := by decide +kernel
theorem dX7_init_103 : decode cX7_init 103 = .ok (.iconst 0, 1) := by decide +kernel
theorem dX7_init_104 : decode cX7_init 104 = .ok (.putfield 66, 3) := by decide +kernel
theorem dX7_init_107 : decode cX7_init 107 = .ok (.aload_n 0, 1) := by decide +kernel
theorem dX7_init_108 : decode cX7_init 108 = .ok (.iconst 0, 1) := by decide +kernel
theorem dX7_init_109 : decode cX7_init 109 = .ok (.putfield 69, 3) := by decide +kernel
theorem dX7_init_112 : decode cX7_init 112 = .ok (.aload_n 0, 1) := by decide +kernel
theorem dX7_init_113 : decode cX7_init 113 = .ok (.iconst 0, 1) := by decide +kernel
theorem dX7_init_114 : decode cX7_init 114 = .ok (.putfield 72, 3) := by decide +kernel
theorem dX7_init_117 : decode cX7_init 117 = .ok (.iconst 0, 1) := by decide +kernel
theorem dX7_init_118 : decode cX7_init 118 = .ok (.istore_n 1, 1) := by decide +kernel
theorem dX7_init_119 : decode cX7_init 119 = .ok (.iload_n 1, 1) := by decide +kernel
theorem dX7_init_120 : decode cX7_init 120 = .ok (.iconst 2, 1) := by decide +kernel
theorem dX7_init_121 : decode cX7_init 121 = .ok (.if_icmp .ge 22, 3) := by decide +kernel
theorem dX7_init_124 : decode cX7_init 124 = .ok (.aload_n 0, 1) := by decide +kernel
theorem dX7_init_125 : decode cX7_init 125 = .ok (.getfield 16, 3) := by decide +kernel
theorem dX7_init_128 : decode cX7_init 128 = .ok (.iload_n 1, 1) := by decide +kernel
theorem dX7_init_129 : decode cX7_init 129 = .ok (.new 7, 3) := by decide +kernel
theorem dX7_init_132 : decode cX7_init 132 = .ok (.dup, 1) := by decide +kernel
theorem dX7_init_133 : decode cX7_init 133 = .ok (.invokespecial 9, 3) := by decide +kernel
theorem dX7_init_136 : decode cX7_init 136 = .ok (.aastore, 1) := by decide +kernel
theorem dX7_init_137 : decode cX7_init 137 = .ok (.iinc 1 1, 3) := by decide +kernel
theorem dX7_init_140 : decode cX7_init 140 = .ok (.goto (-21), 3) := by decide +kernel
theorem dX7_init_143 : decode cX7_init 143 = .ok (.iconst 0, 1) := by decide +kernel
theorem dX7_init_144 : decode cX7_init 144 = .ok (.istore_n 1, 1) := by decide +kernel
theorem dX7_init_145 : decode cX7_init 145 = .ok (.iload_n 1, 1) := by decide +kernel
theorem dX7_init_146 : decode cX7_init 146 = .ok (.iconst 5, 1) := by decide +kernel
theorem dX7_init_147 : decode cX7_init 147 = .ok (.if_icmp .gt 22, 3) := by decide +kernel
theorem dX7_init_150 : decode cX7_init 150 = .ok (.aload_n 0, 1) := by decide +kernel
theorem dX7_init_151 : decode cX7_init 151 = .ok (.getfield 51, 3) := by decide +kernel
theorem dX7_init_154 : decode cX7_init 154 = .ok (.iload_n 1, 1) := by decide +kernel
theorem dX7_init_155 : decode cX7_init 155 = .ok (.new 44, 3) := by decide +kernel
theorem dX7_init_158 : decode cX7_init 158 = .ok (.dup, 1) := by decide +kernel
theorem dX7_init_159 : decode cX7_init 159 = .ok (.invokespecial 46, 3) := by decide +kernel
theorem dX7_init_162 : decode cX7_init 162 = .ok (.aastore, 1) := by decide +kernel
theorem dX7_init_163 : decode cX7_init 163 = .ok (.iinc 1 1, 3) := by decide +kernel
theorem dX7_init_166 : decode cX7_init 166 = .ok (.goto (-21), 3) := by decide +kernel
theorem dX7_init_169 : decode cX7_init 169 = .ok (.return_, 1) := by decide +kernel
theorem dX7_put_0 : decode cX7_put 0 = .ok (.iload_n 1, 1) := by decide +kernel
theorem dX7_put_1 : decode cX7_put 1 = .ok (.iconst 0, 1) := by decide +kernel
theorem dX7_put_2 : decode cX7_put 2 = .ok (.bipush 7, 2) := by decide +kernel
theorem dX7_put_4 : decode cX7_put 4 = .ok (.invokestatic 75, 3) := by decide +kernel
theorem dX7_put_7 : decode cX7_put 7 = .ok (.ifCond .eq 20, 3) := by decide +kernel
theorem dX7_put_10 : decode cX7_put 10 = .ok (.iload_n 2, 1) := by decide +kernel
theorem dX7_put_11 : decode cX7_put 11 = .ok (.getstatic 79, 3) := by decide +kernel
theorem dX7_put_14 : decode cX7_put 14 = .ok (.iload_n 1, 1) := by decide +kernel
theorem dX7_put_15 : decode cX7_put 15 = .ok (.iaload, 1) := by decide +kernel
theorem dX7_put_16 : decode cX7_put 16 = .ok (.getstatic 82, 3) := by decide +kernel
theorem dX7_put_19 : decode cX7_put 19 = .ok (.iload_n 1, 1) := by decide +kernel
theorem dX7_put_20 : decode cX7_put 20 = .ok (.iaload, 1) := by decide +kernel
theorem dX7_put_21 : decode cX7_put 21 = .ok (.invokestatic 75, 3) := by decide +kernel
theorem dX7_put_24 : decode cX7_put 24 = .ok (.ifCond .ne 10, 3) := by decide +kernel
theorem dX7_put_27 : decode cX7_put 27 = .ok (.aload_n 0, 1) := by decide +kernel
theorem dX7_put_28 : decode cX7_put 28 = .ok (.bipush (-100), 2) := by decide +kernel
theorem dX7_put_30 : decode cX7_put 30 = .ok (.invokevirtual 85, 3) := by decide +kernel
theorem dX7_put_33 : decode cX7_put 33 = .ok (.ireturn, 1) := by decide +kernel
theorem dX7_put_34 : decode cX7_put 34 = .ok (.aload_n 0, 1) := by decide +kernel
theorem dX7_put_35 : decode cX7_put 35 = .ok (.getfield 10, 3) := by decide +kernel
theorem dX7_put_38 : decode cX7_put 38 = .ok (.getfield 89, 3) := by decide +kernel
theorem dX7_put_41 : decode cX7_put 41 = .ok (.iload_n 1, 1) := by decide +kernel
theorem dX7_put_42 : decode cX7_put 42 = .ok (.iaload, 1) := by decide +kernel
theorem dX7_put_43 : decode cX7_put 43 = .ok (.istore_n 3, 1) := by decide +kernel
theorem dX7_put_44 : decode cX7_put 44 = .ok (.aload_n 0, 1) := by decide +kernel
theorem dX7_put_45 : decode cX7_put 45 = .ok (.getfield 10, 3) := by decide +kernel
theorem dX7_put_48 : decode cX7_put 48 = .ok (.getfield 89, 3) := by decide +kernel
theorem dX7_put_51 : decode cX7_put 51 = .ok (.iload_n 1, 1) := by decide +kernel
theorem dX7_put_52 : decode cX7_put 52 = .ok (.iload_n 2, 1) := by decide +kernel
theorem dX7_put_53 : decode cX7_put 53 = .ok (.iastore, 1) := by decide +kernel
theorem dX7_put_54 : decode cX7_put 54 = .ok (.iload_n 3, 1) := by decide +kernel
theorem dX7_put_55 : decode cX7_put 55 = .ok (.ireturn, 1) := by decide +kernel
theorem dX7_write_0 : decode cX7_write 0 = .ok (.iload_n 1, 1) := by decide +kernel
theorem dX7_write_1 : decode cX7_write 1 = .ok (.iconst 0, 1) := by decide +kernel
theorem dX7_write_2 : decode cX7_write 2 = .ok (.bipush 127, 2) := by decide +kernel
theorem dX7_write_4 : decode cX7_write 4 = .ok (.invokestatic 75, 3) := by decide +kernel
theorem dX7_write_7 : decode cX7_write 7 = .ok (.ifCond .ne 10, 3) := by decide +kernel
theorem dX7_write_10 : decode cX7_write 10 = .ok (.aload_n 0, 1) := by decide +kernel
theorem dX7_write_11 : decode cX7_write 11 = .ok (.bipush (-2), 2) := by decide +kernel
theorem dX7_write_13 : decode cX7_write 13 = .ok (.invokevirtual 85, 3) := by decide +kernel
theorem dX7_write_16 : decode cX7_write 16 = .ok (.ireturn, 1) := by decide +kernel
theorem dX7_write_17 : decode cX7_write 17 = .ok (.aload_n 0, 1) := by decide +kernel
theorem dX7_write_18 : decode cX7_write 18 = .ok (.getfield 10, 3) := by decide +kernel
theorem dX7_write_21 : decode cX7_write 21 = .ok (.getfield 33, 3) := by decide +kernel
theorem dX7_write_24 : decode cX7_write 24 = .ok (.getfield 92, 3) := by decide +kernel
theorem dX7_write_27 : decode cX7_write 27 = .ok (.bipush 60, 2) := by decide +kernel
theorem dX7_write_29 : decode cX7_write 29 = .ok (.if_icmp .lt 8, 3) := by decide +kernel
theorem dX7_write_32 : decode cX7_write 32 = .ok (.aload_n 0, 1) := by decide +kernel
theorem dX7_write_33 : decode cX7_write 33 = .ok (.invokevirtual 97, 3) := by decide +kernel
theorem dX7_write_36 : decode cX7_write 36 = .ok (.ireturn, 1) := by decide +kernel
theorem dX7_write_37 : decode cX7_write 37 = .ok (.aload_n 0, 1) := by decide +kernel
theorem dX7_write_38 : decode cX7_write 38 = .ok (.getfield 10, 3) := by decide +kernel
theorem dX7_write_41 : decode cX7_write 41 = .ok (.getfield 33, 3) := by decide +kernel
theorem dX7_write_44 : decode cX7_write 44 = .ok (.iload_n 1, 1) := by decide +kernel
theorem dX7_write_45 : decode cX7_write 45 = .ok (.invokevirtual 101, 3) := by decide +kernel
theorem dX7_write_48 : decode cX7_write 48 = .ok (.aload_n 0, 1) := by decide +kernel
theorem dX7_write_49 : decode cX7_write 49 = .ok (.getfield 40, 3) := by decide +kernel
theorem dX7_write_52 : decode cX7_write 52 = .ok (.invokevirtual 105, 3) := by decide +kernel
theorem dX7_write_55 : decode cX7_write 55 = .ok (.aload_n 0, 1) := by decide +kernel
theorem dX7_write_56 : decode cX7_write 56 = .ok (.getfield 10, 3) := by decide +kernel
theorem dX7_write_59 : decode cX7_write 59 = .ok (.getfield 33, 3) := by decide +kernel
theorem dX7_write_62 : decode cX7_write 62 = .ok (.getfield 92, 3) := by decide +kernel
theorem dX7_write_65 : decode cX7_write 65 = .ok (.ireturn, 1) := by decide +kernel
theorem dX7_erase_0 : decode cX7_erase 0 = .ok (.aload_n 0, 1) := by decide +kernel
theorem dX7_erase_1 : decode cX7_erase 1 = .ok (.getfield 10, 3) := by decide +kernel
theorem dX7_erase_4 : decode cX7_erase 4 = .ok (.getfield 33, 3) := by decide +kernel
theorem dX7_erase_7 : decode cX7_erase 7 = .ok (.getfield 92, 3) := by decide +kernel
theorem dX7_erase_10 : decode cX7_erase 10 = .ok (.istore_n 1, 1) := by decide +kernel
theorem dX7_erase_11 : decode cX7_erase 11 = .ok (.aload_n 0, 1) := by decide +kernel
theorem dX7_erase_12 : decode cX7_erase 12 = .ok (.getfield 10, 3) := by decide +kernel
theorem dX7_erase_15 : decode cX7_erase 15 = .ok (.getfield 33, 3) := by decide +kernel
theorem dX7_erase_18 : decode cX7_erase 18 = .ok (.iconst 0, 1) := by decide +kernel
theorem dX7_erase_19 : decode cX7_erase 19 = .ok (.putfield 92, 3) := by decide +kernel
theorem dX7_erase_22 : decode cX7_erase 22 = .ok (.aload_n 0, 1) := by decide +kernel
theorem dX7_erase_23 : decode cX7_erase 23 = .ok (.getfield 40, 3) := by decide +kernel
theorem dX7_erase_26 : decode cX7_erase 26 = .ok (.invokevirtual 105, 3) := by decide +kernel
theorem dX7_erase_29 : decode cX7_erase 29 = .ok (.iload_n 1, 1) := by decide +kernel
theorem dX7_erase_30 : decode cX7_erase 30 = .ok (.ireturn, 1) := by decide +kernel
theorem dX7_fault_0 : decode cX7_fault 0 = .ok (.aload_n 0, 1) := by decide +kernel
theorem dX7_fault_1 : decode cX7_fault 1 = .ok (.getfield 27, 3) := by decide +kernel
theorem dX7_fault_4 : decode cX7_fault 4 = .ok (.getfield 108, 3) := by decide +kernel
theorem dX7_fault_7 : decode cX7_fault 7 = .ok (.ireturn, 1) := by decide +kernel
theorem dX7_push_0 : decode cX7_push 0 = .ok (.iload_n 1, 1) := by decide +kernel
theorem dX7_push_1 : decode cX7_push 1 = .ok (.iconst 0, 1) := by decide +kernel
theorem dX7_push_2 : decode cX7_push 2 = .ok (.sipush 9999, 3) := by decide +kernel
theorem dX7_push_5 : decode cX7_push 5 = .ok (.invokestatic 75, 3) := by decide +kernel
theorem dX7_push_8 : decode cX7_push 8 = .ok (.ifCond .eq 10, 3) := by decide +kernel
theorem dX7_push_11 : decode cX7_push 11 = .ok (.iload_n 2, 1) := by decide +kernel
theorem dX7_push_12 : decode cX7_push 12 = .ok (.invokestatic 111, 3) := by decide +kernel
theorem dX7_push_15 : decode cX7_push 15 = .ok (.ifCond .ne 10, 3) := by decide +kernel
theorem dX7_push_18 : decode cX7_push 18 = .ok (.aload_n 0, 1) := by decide +kernel
theorem dX7_push_19 : decode cX7_push 19 = .ok (.bipush (-2), 2) := by decide +kernel
theorem dX7_push_21 : decode cX7_push 21 = .ok (.invokevirtual 85, 3) := by decide +kernel
theorem dX7_push_24 : decode cX7_push 24 = .ok (.ireturn, 1) := by decide +kernel
theorem dX7_push_25 : decode cX7_push 25 = .ok (.aload_n 0, 1) := by decide +kernel
theorem dX7_push_26 : decode cX7_push 26 = .ok (.getfield 10, 3) := by decide +kernel
theorem dX7_push_29 : decode cX7_push 29 = .ok (.getfield 115, 3) := by decide +kernel
theorem dX7_push_32 : decode cX7_push 32 = .ok (.getfield 119, 3) := by decide +kernel
theorem dX7_push_35 : decode cX7_push 35 = .ok (.bipush 8, 2) := by decide +kernel
theorem dX7_push_37 : decode cX7_push 37 = .ok (.if_icmp .lt 8, 3) := by decide +kernel
theorem dX7_push_40 : decode cX7_push 40 = .ok (.aload_n 0, 1) := by decide +kernel
theorem dX7_push_41 : decode cX7_push 41 = .ok (.invokevirtual 97, 3) := by decide +kernel
theorem dX7_push_44 : decode cX7_push 44 = .ok (.ireturn, 1) := by decide +kernel
theorem dX7_push_45 : decode cX7_push 45 = .ok (.aload_n 0, 1) := by decide +kernel
theorem dX7_push_46 : decode cX7_push 46 = .ok (.getfield 10, 3) := by decide +kernel
theorem dX7_push_49 : decode cX7_push 49 = .ok (.getfield 115, 3) := by decide +kernel
theorem dX7_push_52 : decode cX7_push 52 = .ok (.iload_n 1, 1) := by decide +kernel
theorem dX7_push_53 : decode cX7_push 53 = .ok (.iload_n 2, 1) := by decide +kernel
theorem dX7_push_54 : decode cX7_push 54 = .ok (.invokevirtual 124, 3) := by decide +kernel
theorem dX7_push_57 : decode cX7_push 57 = .ok (.aload_n 0, 1) := by decide +kernel
theorem dX7_push_58 : decode cX7_push 58 = .ok (.getfield 10, 3) := by decide +kernel
theorem dX7_push_61 : decode cX7_push 61 = .ok (.getfield 115, 3) := by decide +kernel
theorem dX7_push_64 : decode cX7_push 64 = .ok (.getfield 119, 3) := by decide +kernel
theorem dX7_push_67 : decode cX7_push 67 = .ok (.ireturn, 1) := by decide +kernel
theorem dX7_rest_0 : decode cX7_rest 0 = .ok (.aload_n 0, 1) := by decide +kernel
theorem dX7_rest_1 : decode cX7_rest 1 = .ok (.getfield 10, 3) := by decide +kernel
theorem dX7_rest_4 : decode cX7_rest 4 = .ok (.getfield 115, 3) := by decide +kernel
theorem dX7_rest_7 : decode cX7_rest 7 = .ok (.getfield 119, 3) := by decide +kernel
theorem dX7_rest_10 : decode cX7_rest 10 = .ok (.istore_n 1, 1) := by decide +kernel
theorem dX7_rest_11 : decode cX7_rest 11 = .ok (.aload_n 0, 1) := by decide +kernel
theorem dX7_rest_12 : decode cX7_rest 12 = .ok (.getfield 10, 3) := by decide +kernel
theorem dX7_rest_15 : decode cX7_rest 15 = .ok (.getfield 115, 3) := by decide +kernel
theorem dX7_rest_18 : decode cX7_rest 18 = .ok (.iconst 0, 1) := by decide +kernel
theorem dX7_rest_19 : decode cX7_rest 19 = .ok (.putfield 119, 3) := by decide +kernel
theorem dX7_rest_22 : decode cX7_rest 22 = .ok (.iload_n 1, 1) := by decide +kernel
theorem dX7_rest_23 : decode cX7_rest 23 = .ok (.ireturn, 1) := by decide +kernel
theorem dX7_begin_0 : decode cX7_begin 0 = .ok (.iload_n 1, 1) := by decide +kernel
theorem dX7_begin_1 : decode cX7_begin 1 = .ok (.ldc 127, 2) := by decide +kernel
theorem dX7_begin_3 : decode cX7_begin 3 = .ok (.ldc 128, 2) := by decide +kernel
theorem dX7_begin_5 : decode cX7_begin 5 = .ok (.invokestatic 75, 3) := by decide +kernel
theorem dX7_begin_8 : decode cX7_begin 8 = .ok (.ifCond .ne 10, 3) := by decide +kernel
theorem dX7_begin_11 : decode cX7_begin 11 = .ok (.aload_n 0, 1) := by decide +kernel
theorem dX7_begin_12 : decode cX7_begin 12 = .ok (.bipush (-2), 2) := by decide +kernel
theorem dX7_begin_14 : decode cX7_begin 14 = .ok (.invokevirtual 85, 3) := by decide +kernel
theorem dX7_begin_17 : decode cX7_begin 17 = .ok (.ireturn, 1) := by decide +kernel
theorem dX7_begin_18 : decode cX7_begin 18 = .ok (.aload_n 0, 1) := by decide +kernel
theorem dX7_begin_19 : decode cX7_begin 19 = .ok (.getfield 10, 3) := by decide +kernel
theorem dX7_begin_22 : decode cX7_begin 22 = .ok (.getfield 129, 3) := by decide +kernel
theorem dX7_begin_25 : decode cX7_begin 25 = .ok (.iload_n 1, 1) := by decide +kernel
theorem dX7_begin_26 : decode cX7_begin 26 = .ok (.invokevirtual 132, 3) := by decide +kernel
theorem dX7_begin_29 : decode cX7_begin 29 = .ok (.aload_n 0, 1) := by decide +kernel
theorem dX7_begin_30 : decode cX7_begin 30 = .ok (.getfield 10, 3) := by decide +kernel
theorem dX7_begin_33 : decode cX7_begin 33 = .ok (.getfield 135, 3) := by decide +kernel
theorem dX7_begin_36 : decode cX7_begin 36 = .ok (.invokevirtual 139, 3) := by decide +kernel
theorem dX7_begin_39 : decode cX7_begin 39 = .ok (.iconst 1, 1) := by decide +kernel
theorem dX7_begin_40 : decode cX7_begin 40 = .ok (.ireturn, 1) := by decide +kernel
theorem dX7_tick_0 : decode cX7_tick 0 = .ok (.iload_n 1, 1) := by decide +kernel
theorem dX7_tick_1 : decode cX7_tick 1 = .ok (.invokestatic 144, 3) := by decide +kernel
theorem dX7_tick_4 : decode cX7_tick 4 = .ok (.ifCond .ne 10, 3) := by decide +kernel
theorem dX7_tick_7 : decode cX7_tick 7 = .ok (.aload_n 0, 1) := by decide +kernel
theorem dX7_tick_8 : decode cX7_tick 8 = .ok (.bipush (-2), 2) := by decide +kernel
theorem dX7_tick_10 : decode cX7_tick 10 = .ok (.invokevirtual 85, 3) := by decide +kernel
theorem dX7_tick_13 : decode cX7_tick 13 = .ok (.ireturn, 1) := by decide +kernel
theorem dX7_tick_14 : decode cX7_tick 14 = .ok (.iconst 0, 1) := by decide +kernel
theorem dX7_tick_15 : decode cX7_tick 15 = .ok (.istore_n 2, 1) := by decide +kernel
theorem dX7_tick_16 : decode cX7_tick 16 = .ok (.iload_n 2, 1) := by decide +kernel
theorem dX7_tick_17 : decode cX7_tick 17 = .ok (.iload_n 1, 1) := by decide +kernel
theorem dX7_tick_18 : decode cX7_tick 18 = .ok (.if_icmp .ge 43, 3) := by decide +kernel
theorem dX7_tick_21 : decode cX7_tick 21 = .ok (.aload_n 0, 1) := by decide +kernel
theorem dX7_tick_22 : decode cX7_tick 22 = .ok (.aload_n 0, 1) := by decide +kernel
theorem dX7_tick_23 : decode cX7_tick 23 = .ok (.getfield 10, 3) := by decide +kernel
theorem dX7_tick_26 : decode cX7_tick 26 = .ok (.getfield 129, 3) := by decide +kernel
theorem dX7_tick_29 : decode cX7_tick 29 = .ok (.invokevirtual 147, 3) := by decide +kernel
theorem dX7_tick_32 : decode cX7_tick 32 = .ok (.ifCond .eq 23, 3) := by decide +kernel
theorem dX7_tick_35 : decode cX7_tick 35 = .ok (.aload_n 0, 1) := by decide +kernel
theorem dX7_tick_36 : decode cX7_tick 36 = .ok (.getfield 10, 3) := by decide +kernel
theorem dX7_tick_39 : decode cX7_tick 39 = .ok (.getfield 135, 3) := by decide +kernel
theorem dX7_tick_42 : decode cX7_tick 42 = .ok (.aload_n 0, 1) := by decide +kernel
theorem dX7_tick_43 : decode cX7_tick 43 = .ok (.getfield 10, 3) := by decide +kernel
theorem dX7_tick_46 : decode cX7_tick 46 = .ok (.getfield 129, 3) := by decide +kernel
theorem dX7_tick_49 : decode cX7_tick 49 = .ok (.getfield 151, 3) := by decide +kernel
theorem dX7_tick_52 : decode cX7_tick 52 = .ok (.invokevirtual 154, 3) := by decide +kernel
theorem dX7_tick_55 : decode cX7_tick 55 = .ok (.iinc 2 1, 3) := by decide +kernel
theorem dX7_tick_58 : decode cX7_tick 58 = .ok (.goto (-42), 3) := by decide +kernel
theorem dX7_tick_61 : decode cX7_tick 61 = .ok (.aload_n 0, 1) := by decide +kernel
theorem dX7_tick_62 : decode cX7_tick 62 = .ok (.getfield 10, 3) := by decide +kernel
theorem dX7_tick_65 : decode cX7_tick 65 = .ok (.getfield 129, 3) := by decide +kernel
theorem dX7_tick_68 : decode cX7_tick 68 = .ok (.getfield 151, 3) := by decide +kernel
theorem dX7_tick_71 : decode cX7_tick 71 = .ok (.ireturn, 1) := by decide +kernel
theorem dX7_told_0 : decode cX7_told 0 = .ok (.iload_n 1, 1) := by decide +kernel
theorem dX7_told_1 : decode cX7_told 1 = .ok (.iconst 0, 1) := by decide +kernel
theorem dX7_told_2 : decode cX7_told 2 = .ok (.bipush 11, 2) := by decide +kernel
theorem dX7_told_4 : decode cX7_told 4 = .ok (.invokestatic 75, 3) := by decide +kernel
theorem dX7_told_7 : decode cX7_told 7 = .ok (.ifCond .eq 11, 3) := by decide +kernel
theorem dX7_told_10 : decode cX7_told 10 = .ok (.aload_n 0, 1) := by decide +kernel
theorem dX7_told_11 : decode cX7_told 11 = .ok (.iload_n 1, 1) := by decide +kernel
theorem dX7_told_12 : decode cX7_told 12 = .ok (.invokevirtual 155, 3) := by decide +kernel
theorem dX7_told_15 : decode cX7_told 15 = .ok (.goto 9, 3) := by decide +kernel
theorem dX7_told_18 : decode cX7_told 18 = .ok (.aload_n 0, 1) := by decide +kernel
theorem dX7_told_19 : decode cX7_told 19 = .ok (.ldc 158, 2) := by decide +kernel
theorem dX7_told_21 : decode cX7_told 21 = .ok (.invokevirtual 85, 3) := by decide +kernel
theorem dX7_told_24 : decode cX7_told 24 = .ok (.ireturn, 1) := by decide +kernel
theorem dX7_turn_0 : decode cX7_turn 0 = .ok (.iload_n 1, 1) := by decide +kernel
theorem dX7_turn_1 : decode cX7_turn 1 = .ok (.iconst 0, 1) := by decide +kernel
theorem dX7_turn_2 : decode cX7_turn 2 = .ok (.bipush 39, 2) := by decide +kernel
theorem dX7_turn_4 : decode cX7_turn 4 = .ok (.invokestatic 75, 3) := by decide +kernel
theorem dX7_turn_7 : decode cX7_turn 7 = .ok (.ifCond .eq 17, 3) := by decide +kernel
theorem dX7_turn_10 : decode cX7_turn 10 = .ok (.aload_n 0, 1) := by decide +kernel
theorem dX7_turn_11 : decode cX7_turn 11 = .ok (.getfield 10, 3) := by decide +kernel
theorem dX7_turn_14 : decode cX7_turn 14 = .ok (.getfield 135, 3) := by decide +kernel
theorem dX7_turn_17 : decode cX7_turn 17 = .ok (.iload_n 1, 1) := by decide +kernel
theorem dX7_turn_18 : decode cX7_turn 18 = .ok (.invokevirtual 159, 3) := by decide +kernel
theorem dX7_turn_21 : decode cX7_turn 21 = .ok (.goto 9, 3) := by decide +kernel
theorem dX7_turn_24 : decode cX7_turn 24 = .ok (.aload_n 0, 1) := by decide +kernel
theorem dX7_turn_25 : decode cX7_turn 25 = .ok (.bipush (-2), 2) := by decide +kernel
theorem dX7_turn_27 : decode cX7_turn 27 = .ok (.invokevirtual 85, 3) := by decide +kernel
theorem dX7_turn_30 : decode cX7_turn 30 = .ok (.ireturn, 1) := by decide +kernel
theorem dX7_peak_0 : decode cX7_peak 0 = .ok (.iload_n 1, 1) := by decide +kernel
theorem dX7_peak_1 : decode cX7_peak 1 = .ok (.invokestatic 144, 3) := by decide +kernel
theorem dX7_peak_4 : decode cX7_peak 4 = .ok (.ifCond .eq 13, 3) := by decide +kernel
theorem dX7_peak_7 : decode cX7_peak 7 = .ok (.aload_n 0, 1) := by decide +kernel
theorem dX7_peak_8 : decode cX7_peak 8 = .ok (.iconst 0, 1) := by decide +kernel
theorem dX7_peak_9 : decode cX7_peak 9 = .ok (.iconst 0, 1) := by decide +kernel
theorem dX7_peak_10 : decode cX7_peak 10 = .ok (.iload_n 1, 1) := by decide +kernel
theorem dX7_peak_11 : decode cX7_peak 11 = .ok (.invokevirtual 162, 3) := by decide +kernel
theorem dX7_peak_14 : decode cX7_peak 14 = .ok (.goto 9, 3) := by decide +kernel
theorem dX7_peak_17 : decode cX7_peak 17 = .ok (.aload_n 0, 1) := by decide +kernel
theorem dX7_peak_18 : decode cX7_peak 18 = .ok (.bipush (-2), 2) := by decide +kernel
theorem dX7_peak_20 : decode cX7_peak 20 = .ok (.invokevirtual 85, 3) := by decide +kernel
theorem dX7_peak_23 : decode cX7_peak 23 = .ok (.ireturn, 1) := by decide +kernel
theorem dX7_gain_0 : decode cX7_gain 0 = .ok (.iload_n 1, 1) := by decide +kernel
theorem dX7_gain_1 : decode cX7_gain 1 = .ok (.invokestatic 144, 3) := by decide +kernel
theorem dX7_gain_4 : decode cX7_gain 4 = .ok (.ifCond .ne 10, 3) := by decide +kernel
theorem dX7_gain_7 : decode cX7_gain 7 = .ok (.aload_n 0, 1) := by decide +kernel
theorem dX7_gain_8 : decode cX7_gain 8 = .ok (.ldc 158, 2) := by decide +kernel
theorem dX7_gain_10 : decode cX7_gain 10 = .ok (.invokevirtual 85, 3) := by decide +kernel
theorem dX7_gain_13 : decode cX7_gain 13 = .ok (.ireturn, 1) := by decide +kernel
theorem dX7_gain_14 : decode cX7_gain 14 = .ok (.aload_n 0, 1) := by decide +kernel
theorem dX7_gain_15 : decode cX7_gain 15 = .ok (.getfield 47, 3) := by decide +kernel
theorem dX7_gain_18 : decode cX7_gain 18 = .ok (.aload_n 0, 1) := by decide +kernel
theorem dX7_gain_19 : decode cX7_gain 19 = .ok (.getfield 10, 3) := by decide +kernel
theorem dX7_gain_22 : decode cX7_gain 22 = .ok (.getfield 129, 3) := by decide +kernel
theorem dX7_gain_25 : decode cX7_gain 25 = .ok (.invokevirtual 166, 3) := by decide +kernel
theorem dX7_gain_28 : decode cX7_gain 28 = .ok (.iconst 0, 1) := by decide +kernel
theorem dX7_gain_29 : decode cX7_gain 29 = .ok (.istore_n 2, 1) := by decide +kernel
theorem dX7_gain_30 : decode cX7_gain 30 = .ok (.iconst 0, 1) := by decide +kernel
theorem dX7_gain_31 : decode cX7_gain 31 = .ok (.istore_n 3, 1) := by decide +kernel
theorem dX7_gain_32 : decode cX7_gain 32 = .ok (.iconst 0, 1) := by decide +kernel
theorem dX7_gain_33 : decode cX7_gain 33 = .ok (.istore 4, 2) := by decide +kernel
theorem dX7_gain_35 : decode cX7_gain 35 = .ok (.iload 4, 2) := by decide +kernel
theorem dX7_gain_37 : decode cX7_gain 37 = .ok (.iload_n 1, 1) := by decide +kernel
theorem dX7_gain_38 : decode cX7_gain 38 = .ok (.if_icmp .ge 39, 3) := by decide +kernel
theorem dX7_gain_41 : decode cX7_gain 41 = .ok (.aload_n 0, 1) := by decide +kernel
theorem dX7_gain_42 : decode cX7_gain 42 = .ok (.aload_n 0, 1) := by decide +kernel
theorem dX7_gain_43 : decode cX7_gain 43 = .ok (.getfield 47, 3) := by decide +kernel
theorem dX7_gain_46 : decode cX7_gain 46 = .ok (.invokevirtual 147, 3) := by decide +kernel
theorem dX7_gain_49 : decode cX7_gain 49 = .ok (.ifCond .eq 22, 3) := by decide +kernel
theorem dX7_gain_52 : decode cX7_gain 52 = .ok (.iload_n 2, 1) := by decide +kernel
theorem dX7_gain_53 : decode cX7_gain 53 = .ok (.ifCond .ne 13, 3) := by decide +kernel
theorem dX7_gain_56 : decode cX7_gain 56 = .ok (.aload_n 0, 1) := by decide +kernel
theorem dX7_gain_57 : decode cX7_gain 57 = .ok (.getfield 47, 3) := by decide +kernel
theorem dX7_gain_60 : decode cX7_gain 60 = .ok (.getfield 151, 3) := by decide +kernel
theorem dX7_gain_63 : decode cX7_gain 63 = .ok (.goto 4, 3) := by decide +kernel
theorem dX7_gain_66 : decode cX7_gain 66 = .ok (.iload_n 3, 1) := by decide +kernel
theorem dX7_gain_67 : decode cX7_gain 67 = .ok (.istore_n 3, 1) := by decide +kernel
theorem dX7_gain_68 : decode cX7_gain 68 = .ok (.iinc 2 1, 3) := by decide +kernel
theorem dX7_gain_71 : decode cX7_gain 71 = .ok (.iinc 4 1, 3) := by decide +kernel
theorem dX7_gain_74 : decode cX7_gain 74 = .ok (.goto (-39), 3) := by decide +kernel
theorem dX7_gain_77 : decode cX7_gain 77 = .ok (.iload_n 2, 1) := by decide +kernel
theorem dX7_gain_78 : decode cX7_gain 78 = .ok (.iconst 2, 1) := by decide +kernel
theorem dX7_gain_79 : decode cX7_gain 79 = .ok (.if_icmp .ge 7, 3) := by decide +kernel
theorem dX7_gain_82 : decode cX7_gain 82 = .ok (.iconst 0, 1) := by decide +kernel
theorem dX7_gain_83 : decode cX7_gain 83 = .ok (.goto 12, 3) := by decide +kernel
theorem dX7_gain_86 : decode cX7_gain 86 = .ok (.aload_n 0, 1) := by decide +kernel
theorem dX7_gain_87 : decode cX7_gain 87 = .ok (.getfield 47, 3) := by decide +kernel
theorem dX7_gain_90 : decode cX7_gain 90 = .ok (.getfield 151, 3) := by decide +kernel
theorem dX7_gain_93 : decode cX7_gain 93 = .ok (.iload_n 3, 1) := by decide +kernel
theorem dX7_gain_94 : decode cX7_gain 94 = .ok (.isub, 1) := by decide +kernel
theorem dX7_gain_95 : decode cX7_gain 95 = .ok (.ireturn, 1) := by decide +kernel
theorem dX7_worth_0 : decode cX7_worth 0 = .ok (.iload_n 1, 1) := by decide +kernel
theorem dX7_worth_1 : decode cX7_worth 1 = .ok (.iconst 0, 1) := by decide +kernel
theorem dX7_worth_2 : decode cX7_worth 2 = .ok (.sipush 499, 3) := by decide +kernel
theorem dX7_worth_5 : decode cX7_worth 5 = .ok (.invokestatic 75, 3) := by decide +kernel
theorem dX7_worth_8 : decode cX7_worth 8 = .ok (.ifCond .eq 17, 3) := by decide +kernel
theorem dX7_worth_11 : decode cX7_worth 11 = .ok (.iload_n 2, 1) := by decide +kernel
theorem dX7_worth_12 : decode cX7_worth 12 = .ok (.invokestatic 111, 3) := by decide +kernel
theorem dX7_worth_15 : decode cX7_worth 15 = .ok (.ifCond .eq 10, 3) := by decide +kernel
theorem dX7_worth_18 : decode cX7_worth 18 = .ok (.iload_n 3, 1) := by decide +kernel
theorem dX7_worth_19 : decode cX7_worth 19 = .ok (.invokestatic 144, 3) := by decide +kernel
theorem dX7_worth_22 : decode cX7_worth 22 = .ok (.ifCond .ne 10, 3) := by decide +kernel
theorem dX7_worth_25 : decode cX7_worth 25 = .ok (.aload_n 0, 1) := by decide +kernel
theorem dX7_worth_26 : decode cX7_worth 26 = .ok (.ldc 158, 2) := by decide +kernel
theorem dX7_worth_28 : decode cX7_worth 28 = .ok (.invokevirtual 85, 3) := by decide +kernel
theorem dX7_worth_31 : decode cX7_worth 31 = .ok (.ireturn, 1) := by decide +kernel
theorem dX7_worth_32 : decode cX7_worth 32 = .ok (.aload_n 0, 1) := by decide +kernel
theorem dX7_worth_33 : decode cX7_worth 33 = .ok (.iload_n 1, 1) := by decide +kernel
theorem dX7_worth_34 : decode cX7_worth 34 = .ok (.iload_n 2, 1) := by decide +kernel
theorem dX7_worth_35 : decode cX7_worth 35 = .ok (.iload_n 3, 1) := by decide +kernel
theorem dX7_worth_36 : decode cX7_worth 36 = .ok (.invokevirtual 162, 3) := by decide +kernel
theorem dX7_worth_39 : decode cX7_worth 39 = .ok (.aload_n 0, 1) := by decide +kernel
theorem dX7_worth_40 : decode cX7_worth 40 = .ok (.iconst 0, 1) := by decide +kernel
theorem dX7_worth_41 : decode cX7_worth 41 = .ok (.iconst 0, 1) := by decide +kernel
theorem dX7_worth_42 : decode cX7_worth 42 = .ok (.iload_n 3, 1) := by decide +kernel
theorem dX7_worth_43 : decode cX7_worth 43 = .ok (.invokevirtual 162, 3) := by decide +kernel
theorem dX7_worth_46 : decode cX7_worth 46 = .ok (.isub, 1) := by decide +kernel
theorem dX7_worth_47 : decode cX7_worth 47 = .ok (.ireturn, 1) := by decide +kernel
theorem dX7_begins_0 : decode cX7_begins 0 = .ok (.aload_n 0, 1) := by decide +kernel
theorem dX7_begins_1 : decode cX7_begins 1 = .ok (.getfield 47, 3) := by decide +kernel
theorem dX7_begins_4 : decode cX7_begins 4 = .ok (.aload_n 0, 1) := by decide +kernel
theorem dX7_begins_5 : decode cX7_begins 5 = .ok (.getfield 10, 3) := by decide +kernel
theorem dX7_begins_8 : decode cX7_begins 8 = .ok (.getfield 129, 3) := by decide +kernel
theorem dX7_begins_11 : decode cX7_begins 11 = .ok (.invokevirtual 166, 3) := by decide +kernel
theorem dX7_begins_14 : decode cX7_begins 14 = .ok (.aload_n 0, 1) := by decide +kernel
theorem dX7_begins_15 : decode cX7_begins 15 = .ok (.getfield 47, 3) := by decide +kernel
theorem dX7_begins_18 : decode cX7_begins 18 = .ok (.iconst 0, 1) := by decide +kernel
theorem dX7_begins_19 : decode cX7_begins 19 = .ok (.invokevirtual 170, 3) := by decide +kernel
theorem dX7_begins_22 : decode cX7_begins 22 = .ok (.iconst 1, 1) := by decide +kernel
theorem dX7_begins_23 : decode cX7_begins 23 = .ok (.istore_n 1, 1) := by decide +kernel
theorem dX7_begins_24 : decode cX7_begins 24 = .ok (.iload_n 1, 1) := by decide +kernel
theorem dX7_begins_25 : decode cX7_begins 25 = .ok (.sipush 500, 3) := by decide +kernel
theorem dX7_begins_28 : decode cX7_begins 28 = .ok (.if_icmp .gt 33, 3) := by decide +kernel
theorem dX7_begins_31 : decode cX7_begins 31 = .ok (.aload_n 0, 1) := by decide +kernel
theorem dX7_begins_32 : decode cX7_begins 32 = .ok (.aload_n 0, 1) := by decide +kernel
theorem dX7_begins_33 : decode cX7_begins 33 = .ok (.getfield 47, 3) := by decide +kernel
theorem dX7_begins_36 : decode cX7_begins 36 = .ok (.invokevirtual 147, 3) := by decide +kernel
theorem dX7_begins_39 : decode cX7_begins 39 = .ok (.pop, 1) := by decide +kernel
theorem dX7_begins_40 : decode cX7_begins 40 = .ok (.aload_n 0, 1) := by decide +kernel
theorem dX7_begins_41 : decode cX7_begins 41 = .ok (.getfield 47, 3) := by decide +kernel
theorem dX7_begins_44 : decode cX7_begins 44 = .ok (.invokevirtual 173, 3) := by decide +kernel
theorem dX7_begins_47 : decode cX7_begins 47 = .ok (.sipush 1000, 3) := by decide +kernel
theorem dX7_begins_50 : decode cX7_begins 50 = .ok (.if_icmp .lt 5, 3) := by decide +kernel
theorem dX7_begins_53 : decode cX7_begins 53 = .ok (.iload_n 1, 1) := by decide +kernel
theorem dX7_begins_54 : decode cX7_begins 54 = .ok (.ireturn, 1) := by decide +kernel
theorem dX7_begins_55 : decode cX7_begins 55 = .ok (.iinc 1 1, 3) := by decide +kernel
theorem dX7_begins_58 : decode cX7_begins 58 = .ok (.goto (-34), 3) := by decide +kernel
theorem dX7_begins_61 : decode cX7_begins 61 = .ok (.iconst (-1), 1) := by decide +kernel
theorem dX7_begins_62 : decode cX7_begins 62 = .ok (.ireturn, 1) := by decide +kernel
theorem dX7_best_0 : decode cX7_best 0 = .ok (.iload_n 1, 1) := by decide +kernel
theorem dX7_best_1 : decode cX7_best 1 = .ok (.iconst 1, 1) := by decide +kernel
theorem dX7_best_2 : decode cX7_best 2 = .ok (.bipush 12, 2) := by decide +kernel
theorem dX7_best_4 : decode cX7_best 4 = .ok (.invokestatic 75, 3) := by decide +kernel
theorem dX7_best_7 : decode cX7_best 7 = .ok (.ifCond .eq 12, 3) := by decide +kernel
theorem dX7_best_10 : decode cX7_best 10 = .ok (.iload_n 2, 1) := by decide +kernel
theorem dX7_best_11 : decode cX7_best 11 = .ok (.iconst (-1), 1) := by decide +kernel
theorem dX7_best_12 : decode cX7_best 12 = .ok (.iconst 4, 1) := by decide +kernel
theorem dX7_best_13 : decode cX7_best 13 = .ok (.invokestatic 75, 3) := by decide +kernel
theorem dX7_best_16 : decode cX7_best 16 = .ok (.ifCond .ne 10, 3) := by decide +kernel
theorem dX7_best_19 : decode cX7_best 19 = .ok (.aload_n 0, 1) := by decide +kernel
theorem dX7_best_20 : decode cX7_best 20 = .ok (.bipush (-2), 2) := by decide +kernel
theorem dX7_best_22 : decode cX7_best 22 = .ok (.invokevirtual 85, 3) := by decide +kernel
theorem dX7_best_25 : decode cX7_best 25 = .ok (.ireturn, 1) := by decide +kernel
theorem dX7_best_26 : decode cX7_best 26 = .ok (.aload_n 0, 1) := by decide +kernel
theorem dX7_best_27 : decode cX7_best 27 = .ok (.iconst (-1), 1) := by decide +kernel
theorem dX7_best_28 : decode cX7_best 28 = .ok (.putfield 62, 3) := by decide +kernel
theorem dX7_best_31 : decode cX7_best 31 = .ok (.aload_n 0, 1) := by decide +kernel
theorem dX7_best_32 : decode cX7_best 32 = .ok (.getfield 51, 3) := by decide +kernel
theorem dX7_best_35 : decode cX7_best 35 = .ok (.iconst 0, 1) := by decide +kernel
theorem dX7_best_36 : decode cX7_best 36 = .ok (.aaload, 1) := by decide +kernel
theorem dX7_best_37 : decode cX7_best 37 = .ok (.aload_n 0, 1) := by decide +kernel
theorem dX7_best_38 : decode cX7_best 38 = .ok (.getfield 10, 3) := by decide +kernel
theorem dX7_best_41 : decode cX7_best 41 = .ok (.getfield 129, 3) := by decide +kernel
theorem dX7_best_44 : decode cX7_best 44 = .ok (.invokevirtual 166, 3) := by decide +kernel
theorem dX7_best_47 : decode cX7_best 47 = .ok (.aload_n 0, 1) := by decide +kernel
theorem dX7_best_48 : decode cX7_best 48 = .ok (.iconst 0, 1) := by decide +kernel
theorem dX7_best_49 : decode cX7_best 49 = .ok (.iload_n 1, 1) := by decide +kernel
theorem dX7_best_50 : decode cX7_best 50 = .ok (.iconst 0, 1) := by decide +kernel
theorem dX7_best_51 : decode cX7_best 51 = .ok (.invokevirtual 176, 3) := by decide +kernel
theorem dX7_best_54 : decode cX7_best 54 = .ok (.iload_n 2, 1) := by decide +kernel
theorem dX7_best_55 : decode cX7_best 55 = .ok (.iconst (-1), 1) := by decide +kernel
theorem dX7_best_56 : decode cX7_best 56 = .ok (.if_icmp .ne 10, 3) := by decide +kernel
theorem dX7_best_59 : decode cX7_best 59 = .ok (.aload_n 0, 1) := by decide +kernel
theorem dX7_best_60 : decode cX7_best 60 = .ok (.getfield 62, 3) := by decide +kernel
theorem dX7_best_63 : decode cX7_best 63 = .ok (.goto 9, 3) := by decide +kernel
theorem dX7_best_66 : decode cX7_best 66 = .ok (.aload_n 0, 1) := by decide +kernel
theorem dX7_best_67 : decode cX7_best 67 = .ok (.getfield 59, 3) := by decide +kernel
theorem dX7_best_70 : decode cX7_best 70 = .ok (.iload_n 2, 1) := by decide +kernel
theorem dX7_best_71 : decode cX7_best 71 = .ok (.iaload, 1) := by decide +kernel
theorem dX7_best_72 : decode cX7_best 72 = .ok (.ireturn, 1) := by decide +kernel
theorem dX7_when_0 : decode cX7_when 0 = .ok (.iload_n 1, 1) := by decide +kernel
theorem dX7_when_1 : decode cX7_when 1 = .ok (.invokestatic 111, 3) := by decide +kernel
theorem dX7_when_4 : decode cX7_when 4 = .ok (.ifCond .eq 30, 3) := by decide +kernel
theorem dX7_when_7 : decode cX7_when 7 = .ok (.iload_n 2, 1) := by decide +kernel
theorem dX7_when_8 : decode cX7_when 8 = .ok (.invokestatic 144, 3) := by decide +kernel
theorem dX7_when_11 : decode cX7_when 11 = .ok (.ifCond .eq 23, 3) := by decide +kernel
theorem dX7_when_14 : decode cX7_when 14 = .ok (.iload_n 3, 1) := by decide +kernel
theorem dX7_when_15 : decode cX7_when 15 = .ok (.iconst 1, 1) := by decide +kernel
theorem dX7_when_16 : decode cX7_when 16 = .ok (.bipush 40, 2) := by decide +kernel
theorem dX7_when_18 : decode cX7_when 18 = .ok (.invokestatic 75, 3) := by decide +kernel
theorem dX7_when_21 : decode cX7_when 21 = .ok (.ifCond .eq 13, 3) := by decide +kernel
theorem dX7_when_24 : decode cX7_when 24 = .ok (.iload 4, 2) := by decide +kernel
theorem dX7_when_26 : decode cX7_when 26 = .ok (.iconst 0, 1) := by decide +kernel
theorem dX7_when_27 : decode cX7_when 27 = .ok (.iconst 1, 1) := by decide +kernel
theorem dX7_when_28 : decode cX7_when 28 = .ok (.invokestatic 75, 3) := by decide +kernel
theorem dX7_when_31 : decode cX7_when 31 = .ok (.ifCond .ne 10, 3) := by decide +kernel
theorem dX7_when_34 : decode cX7_when 34 = .ok (.aload_n 0, 1) := by decide +kernel
theorem dX7_when_35 : decode cX7_when 35 = .ok (.bipush (-2), 2) := by decide +kernel
theorem dX7_when_37 : decode cX7_when 37 = .ok (.invokevirtual 85, 3) := by decide +kernel
theorem dX7_when_40 : decode cX7_when 40 = .ok (.ireturn, 1) := by decide +kernel
theorem dX7_when_41 : decode cX7_when 41 = .ok (.aload_n 0, 1) := by decide +kernel
theorem dX7_when_42 : decode cX7_when 42 = .ok (.iconst 0, 1) := by decide +kernel
theorem dX7_when_43 : decode cX7_when 43 = .ok (.iconst 0, 1) := by decide +kernel
theorem dX7_when_44 : decode cX7_when 44 = .ok (.iload_n 2, 1) := by decide +kernel
theorem dX7_when_45 : decode cX7_when 45 = .ok (.invokevirtual 162, 3) := by decide +kernel
theorem dX7_when_48 : decode cX7_when 48 = .ok (.istore 5, 2) := by decide +kernel
theorem dX7_when_50 : decode cX7_when 50 = .ok (.iconst 0, 1) := by decide +kernel
theorem dX7_when_51 : decode cX7_when 51 = .ok (.istore 6, 2) := by decide +kernel
theorem dX7_when_53 : decode cX7_when 53 = .ok (.iconst 0, 1) := by decide +kernel
theorem dX7_when_54 : decode cX7_when 54 = .ok (.istore 7, 2) := by decide +kernel
theorem dX7_when_56 : decode cX7_when 56 = .ok (.iconst 0, 1) := by decide +kernel
theorem dX7_when_57 : decode cX7_when 57 = .ok (.istore 8, 2) := by decide +kernel
theorem dX7_when_59 : decode cX7_when 59 = .ok (.iconst 0, 1) := by decide +kernel
theorem dX7_when_60 : decode cX7_when 60 = .ok (.istore 9, 2) := by decide +kernel
theorem dX7_when_62 : decode cX7_when 62 = .ok (.iload 9, 2) := by decide +kernel
theorem dX7_when_64 : decode cX7_when 64 = .ok (.iload_n 3, 1) := by decide +kernel
theorem dX7_when_65 : decode cX7_when 65 = .ok (.if_icmp .ge 57, 3) := by decide +kernel
theorem dX7_when_68 : decode cX7_when 68 = .ok (.aload_n 0, 1) := by decide +kernel
theorem dX7_when_69 : decode cX7_when 69 = .ok (.iload 9, 2) := by decide +kernel
theorem dX7_when_71 : decode cX7_when 71 = .ok (.iload_n 1, 1) := by decide +kernel
theorem dX7_when_72 : decode cX7_when 72 = .ok (.iload_n 2, 1) := by decide +kernel
theorem dX7_when_73 : decode cX7_when 73 = .ok (.invokevirtual 162, 3) := by decide +kernel
theorem dX7_when_76 : decode cX7_when 76 = .ok (.iload 5, 2) := by decide +kernel
theorem dX7_when_78 : decode cX7_when 78 = .ok (.isub, 1) := by decide +kernel
theorem dX7_when_79 : decode cX7_when 79 = .ok (.istore 10, 2) := by decide +kernel
theorem dX7_when_81 : decode cX7_when 81 = .ok (.iload 9, 2) := by decide +kernel
theorem dX7_when_83 : decode cX7_when 83 = .ok (.ifCond .eq 10, 3) := by decide +kernel
theorem dX7_when_86 : decode cX7_when 86 = .ok (.iload 10, 2) := by decide +kernel
theorem dX7_when_88 : decode cX7_when 88 = .ok (.iload 7, 2) := by decide +kernel
theorem dX7_when_90 : decode cX7_when 90 = .ok (.if_icmp .le 11, 3) := by decide +kernel
theorem dX7_when_93 : decode cX7_when 93 = .ok (.iload 9, 2) := by decide +kernel
theorem dX7_when_95 : decode cX7_when 95 = .ok (.istore 6, 2) := by decide +kernel
theorem dX7_when_97 : decode cX7_when 97 = .ok (.iload 10, 2) := by decide +kernel
theorem dX7_when_99 : decode cX7_when 99 = .ok (.istore 7, 2) := by decide +kernel
theorem dX7_when_101 : decode cX7_when 101 = .ok (.iload 8, 2) := by decide +kernel
theorem dX7_when_103 : decode cX7_when 103 = .ok (.iload 10, 2) := by decide +kernel
theorem dX7_when_105 : decode cX7_when 105 = .ok (.ifCond .ge 7, 3) := by decide +kernel
theorem dX7_when_108 : decode cX7_when 108 = .ok (.iconst 1, 1) := by decide +kernel
theorem dX7_when_109 : decode cX7_when 109 = .ok (.goto 4, 3) := by decide +kernel
theorem dX7_when_112 : decode cX7_when 112 = .ok (.iconst 0, 1) := by decide +kernel
theorem dX7_when_113 : decode cX7_when 113 = .ok (.iadd, 1) := by decide +kernel
theorem dX7_when_114 : decode cX7_when 114 = .ok (.istore 8, 2) := by decide +kernel
theorem dX7_when_116 : decode cX7_when 116 = .ok (.iinc 9 1, 3) := by decide +kernel
theorem dX7_when_119 : decode cX7_when 119 = .ok (.goto (-57), 3) := by decide +kernel
theorem dX7_when_122 : decode cX7_when 122 = .ok (.iload 4, 2) := by decide +kernel
theorem dX7_when_124 : decode cX7_when 124 = .ok (.ifCond .ne 8, 3) := by decide +kernel
theorem dX7_when_127 : decode cX7_when 127 = .ok (.iload 6, 2) := by decide +kernel
theorem dX7_when_129 : decode cX7_when 129 = .ok (.goto 5, 3) := by decide +kernel
theorem dX7_when_132 : decode cX7_when 132 = .ok (.iload 8, 2) := by decide +kernel
theorem dX7_when_134 : decode cX7_when 134 = .ok (.ireturn, 1) := by decide +kernel
theorem dX7_far_0 : decode cX7_far 0 = .ok (.iload_n 1, 1) := by decide +kernel
theorem dX7_far_1 : decode cX7_far 1 = .ok (.iconst 0, 1) := by decide +kernel
theorem dX7_far_2 : decode cX7_far 2 = .ok (.bipush 120, 2) := by decide +kernel
theorem dX7_far_4 : decode cX7_far 4 = .ok (.invokestatic 75, 3) := by decide +kernel
theorem dX7_far_7 : decode cX7_far 7 = .ok (.ifCond .ne 10, 3) := by decide +kernel
theorem dX7_far_10 : decode cX7_far 10 = .ok (.aload_n 0, 1) := by decide +kernel
theorem dX7_far_11 : decode cX7_far 11 = .ok (.ldc 180, 2) := by decide +kernel
theorem dX7_far_13 : decode cX7_far 13 = .ok (.invokevirtual 85, 3) := by decide +kernel
theorem dX7_far_16 : decode cX7_far 16 = .ok (.ireturn, 1) := by decide +kernel
theorem dX7_far_17 : decode cX7_far 17 = .ok (.aload_n 0, 1) := by decide +kernel
theorem dX7_far_18 : decode cX7_far 18 = .ok (.getfield 47, 3) := by decide +kernel
theorem dX7_far_21 : decode cX7_far 21 = .ok (.aload_n 0, 1) := by decide +kernel
theorem dX7_far_22 : decode cX7_far 22 = .ok (.getfield 10, 3) := by decide +kernel
theorem dX7_far_25 : decode cX7_far 25 = .ok (.getfield 129, 3) := by decide +kernel
theorem dX7_far_28 : decode cX7_far 28 = .ok (.invokevirtual 166, 3) := by decide +kernel
theorem dX7_far_31 : decode cX7_far 31 = .ok (.iconst 0, 1) := by decide +kernel
theorem dX7_far_32 : decode cX7_far 32 = .ok (.istore_n 2, 1) := by decide +kernel
theorem dX7_far_33 : decode cX7_far 33 = .ok (.iload_n 2, 1) := by decide +kernel
theorem dX7_far_34 : decode cX7_far 34 = .ok (.iload_n 1, 1) := by decide +kernel
theorem dX7_far_35 : decode cX7_far 35 = .ok (.if_icmp .ge 18, 3) := by decide +kernel
theorem dX7_far_38 : decode cX7_far 38 = .ok (.aload_n 0, 1) := by decide +kernel
theorem dX7_far_39 : decode cX7_far 39 = .ok (.aload_n 0, 1) := by decide +kernel
theorem dX7_far_40 : decode cX7_far 40 = .ok (.getfield 47, 3) := by decide +kernel
theorem dX7_far_43 : decode cX7_far 43 = .ok (.invokevirtual 147, 3) := by decide +kernel
theorem dX7_far_46 : decode cX7_far 46 = .ok (.pop, 1) := by decide +kernel
theorem dX7_far_47 : decode cX7_far 47 = .ok (.iinc 2 1, 3) := by decide +kernel
theorem dX7_far_50 : decode cX7_far 50 = .ok (.goto (-17), 3) := by decide +kernel
theorem dX7_far_53 : decode cX7_far 53 = .ok (.aload_n 0, 1) := by decide +kernel
theorem dX7_far_54 : decode cX7_far 54 = .ok (.getfield 47, 3) := by decide +kernel
theorem dX7_far_57 : decode cX7_far 57 = .ok (.aload_n 0, 1) := by decide +kernel
theorem dX7_far_58 : decode cX7_far 58 = .ok (.getfield 10, 3) := by decide +kernel
theorem dX7_far_61 : decode cX7_far 61 = .ok (.getfield 89, 3) := by decide +kernel
theorem dX7_far_64 : decode cX7_far 64 = .ok (.invokevirtual 181, 3) := by decide +kernel
theorem dX7_far_67 : decode cX7_far 67 = .ok (.ireturn, 1) := by decide +kernel
theorem dX7_farthest_0 : decode cX7_farthest 0 = .ok (.iload_n 1, 1) := by decide +kernel
theorem dX7_farthest_1 : decode cX7_farthest 1 = .ok (.iconst 0, 1) := by decide +kernel
theorem dX7_farthest_2 : decode cX7_farthest 2 = .ok (.bipush 120, 2) := by decide +kernel
theorem dX7_farthest_4 : decode cX7_farthest 4 = .ok (.invokestatic 75, 3) := by decide +kernel
theorem dX7_farthest_7 : decode cX7_farthest 7 = .ok (.ifCond .ne 10, 3) := by decide +kernel
theorem dX7_farthest_10 : decode cX7_farthest 10 = .ok (.aload_n 0, 1) := by decide +kernel
theorem dX7_farthest_11 : decode cX7_farthest 11 = .ok (.bipush (-2), 2) := by decide +kernel
theorem dX7_farthest_13 : decode cX7_farthest 13 = .ok (.invokevirtual 85, 3) := by decide +kernel
theorem dX7_farthest_16 : decode cX7_farthest 16 = .ok (.ireturn, 1) := by decide +kernel
theorem dX7_farthest_17 : decode cX7_farthest 17 = .ok (.aload_n 0, 1) := by decide +kernel
theorem dX7_farthest_18 : decode cX7_farthest 18 = .ok (.getfield 47, 3) := by decide +kernel
theorem dX7_farthest_21 : decode cX7_farthest 21 = .ok (.aload_n 0, 1) := by decide +kernel
theorem dX7_farthest_22 : decode cX7_farthest 22 = .ok (.getfield 10, 3) := by decide +kernel
theorem dX7_farthest_25 : decode cX7_farthest 25 = .ok (.getfield 129, 3) := by decide +kernel
theorem dX7_farthest_28 : decode cX7_farthest 28 = .ok (.invokevirtual 166, 3) := by decide +kernel
theorem dX7_farthest_31 : decode cX7_farthest 31 = .ok (.iconst 0, 1) := by decide +kernel
theorem dX7_farthest_32 : decode cX7_farthest 32 = .ok (.istore_n 2, 1) := by decide +kernel
theorem dX7_farthest_33 : decode cX7_farthest 33 = .ok (.aload_n 0, 1) := by decide +kernel
theorem dX7_farthest_34 : decode cX7_farthest 34 = .ok (.getfield 47, 3) := by decide +kernel
theorem dX7_farthest_37 : decode cX7_farthest 37 = .ok (.aload_n 0, 1) := by decide +kernel
theorem dX7_farthest_38 : decode cX7_farthest 38 = .ok (.getfield 10, 3) := by decide +kernel
theorem dX7_farthest_41 : decode cX7_farthest 41 = .ok (.getfield 89, 3) := by decide +kernel
theorem dX7_farthest_44 : decode cX7_farthest 44 = .ok (.invokevirtual 181, 3) := by decide +kernel
theorem dX7_farthest_47 : decode cX7_farthest 47 = .ok (.istore_n 3, 1) := by decide +kernel
theorem dX7_farthest_48 : decode cX7_farthest 48 = .ok (.iconst 1, 1) := by decide +kernel
theorem dX7_farthest_49 : decode cX7_farthest 49 = .ok (.istore 4, 2) := by decide +kernel
theorem dX7_farthest_51 : decode cX7_farthest 51 = .ok (.iload 4, 2) := by decide +kernel
theorem dX7_farthest_53 : decode cX7_farthest 53 = .ok (.iload_n 1, 1) := by decide +kernel
theorem dX7_farthest_54 : decode cX7_farthest 54 = .ok (.if_icmp .gt 46, 3) := by decide +kernel
theorem dX7_farthest_57 : decode cX7_farthest 57 = .ok (.aload_n 0, 1) := by decide +kernel
theorem dX7_farthest_58 : decode cX7_farthest 58 = .ok (.aload_n 0, 1) := by decide +kernel
theorem dX7_farthest_59 : decode cX7_farthest 59 = .ok (.getfield 47, 3) := by decide +kernel
theorem dX7_farthest_62 : decode cX7_farthest 62 = .ok (.invokevirtual 147, 3) := by decide +kernel
theorem dX7_farthest_65 : decode cX7_farthest 65 = .ok (.pop, 1) := by decide +kernel
theorem dX7_farthest_66 : decode cX7_farthest 66 = .ok (.aload_n 0, 1) := by decide +kernel
theorem dX7_farthest_67 : decode cX7_farthest 67 = .ok (.getfield 47, 3) := by decide +kernel
theorem dX7_farthest_70 : decode cX7_farthest 70 = .ok (.aload_n 0, 1) := by decide +kernel
theorem dX7_farthest_71 : decode cX7_farthest 71 = .ok (.getfield 10, 3) := by decide +kernel
theorem dX7_farthest_74 : decode cX7_farthest 74 = .ok (.getfield 89, 3) := by decide +kernel
theorem dX7_farthest_77 : decode cX7_farthest 77 = .ok (.invokevirtual 181, 3) := by decide +kernel
theorem dX7_farthest_80 : decode cX7_farthest 80 = .ok (.istore 5, 2) := by decide +kernel
theorem dX7_farthest_82 : decode cX7_farthest 82 = .ok (.iload 5, 2) := by decide +kernel
theorem dX7_farthest_84 : decode cX7_farthest 84 = .ok (.iload_n 3, 1) := by decide +kernel
theorem dX7_farthest_85 : decode cX7_farthest 85 = .ok (.if_icmp .le 9, 3) := by decide +kernel
theorem dX7_farthest_88 : decode cX7_farthest 88 = .ok (.iload 4, 2) := by decide +kernel
theorem dX7_farthest_90 : decode cX7_farthest 90 = .ok (.istore_n 2, 1) := by decide +kernel
theorem dX7_farthest_91 : decode cX7_farthest 91 = .ok (.iload 5, 2) := by decide +kernel
theorem dX7_farthest_93 : decode cX7_farthest 93 = .ok (.istore_n 3, 1) := by decide +kernel
theorem dX7_farthest_94 : decode cX7_farthest 94 = .ok (.iinc 4 1, 3) := by decide +kernel
theorem dX7_farthest_97 : decode cX7_farthest 97 = .ok (.goto (-46), 3) := by decide +kernel
theorem dX7_farthest_100 : decode cX7_farthest 100 = .ok (.iload_n 2, 1) := by decide +kernel
theorem dX7_farthest_101 : decode cX7_farthest 101 = .ok (.ireturn, 1) := by decide +kernel
theorem dX7_swaps_0 : decode cX7_swaps 0 = .ok (.iload_n 1, 1) := by decide +kernel
theorem dX7_swaps_1 : decode cX7_swaps 1 = .ok (.invokestatic 144, 3) := by decide +kernel
theorem dX7_swaps_4 : decode cX7_swaps 4 = .ok (.ifCond .eq 12, 3) := by decide +kernel
theorem dX7_swaps_7 : decode cX7_swaps 7 = .ok (.iload_n 2, 1) := by decide +kernel
theorem dX7_swaps_8 : decode cX7_swaps 8 = .ok (.iconst 0, 1) := by decide +kernel
theorem dX7_swaps_9 : decode cX7_swaps 9 = .ok (.iconst 1, 1) := by decide +kernel
theorem dX7_swaps_10 : decode cX7_swaps 10 = .ok (.invokestatic 75, 3) := by decide +kernel
theorem dX7_swaps_13 : decode cX7_swaps 13 = .ok (.ifCond .ne 10, 3) := by decide +kernel
theorem dX7_swaps_16 : decode cX7_swaps 16 = .ok (.aload_n 0, 1) := by decide +kernel
theorem dX7_swaps_17 : decode cX7_swaps 17 = .ok (.bipush (-2), 2) := by decide +kernel
theorem dX7_swaps_19 : decode cX7_swaps 19 = .ok (.invokevirtual 85, 3) := by decide +kernel
theorem dX7_swaps_22 : decode cX7_swaps 22 = .ok (.ireturn, 1) := by decide +kernel
theorem dX7_swaps_23 : decode cX7_swaps 23 = .ok (.aload_n 0, 1) := by decide +kernel
theorem dX7_swaps_24 : decode cX7_swaps 24 = .ok (.getfield 47, 3) := by decide +kernel
theorem dX7_swaps_27 : decode cX7_swaps 27 = .ok (.aload_n 0, 1) := by decide +kernel
theorem dX7_swaps_28 : decode cX7_swaps 28 = .ok (.getfield 10, 3) := by decide +kernel
theorem dX7_swaps_31 : decode cX7_swaps 31 = .ok (.getfield 129, 3) := by decide +kernel
theorem dX7_swaps_34 : decode cX7_swaps 34 = .ok (.invokevirtual 166, 3) := by decide +kernel
theorem dX7_swaps_37 : decode cX7_swaps 37 = .ok (.iconst (-1), 1) := by decide +kernel
theorem dX7_swaps_38 : decode cX7_swaps 38 = .ok (.istore_n 3, 1) := by decide +kernel
theorem dX7_swaps_39 : decode cX7_swaps 39 = .ok (.iconst 0, 1) := by decide +kernel
theorem dX7_swaps_40 : decode cX7_swaps 40 = .ok (.istore 4, 2) := by decide +kernel
theorem dX7_swaps_42 : decode cX7_swaps 42 = .ok (.iconst 1, 1) := by decide +kernel
theorem dX7_swaps_43 : decode cX7_swaps 43 = .ok (.istore 5, 2) := by decide +kernel
theorem dX7_swaps_45 : decode cX7_swaps 45 = .ok (.iload 5, 2) := by decide +kernel
theorem dX7_swaps_47 : decode cX7_swaps 47 = .ok (.iload_n 1, 1) := by decide +kernel
theorem dX7_swaps_48 : decode cX7_swaps 48 = .ok (.if_icmp .gt 40, 3) := by decide +kernel
theorem dX7_swaps_51 : decode cX7_swaps 51 = .ok (.aload_n 0, 1) := by decide +kernel
theorem dX7_swaps_52 : decode cX7_swaps 52 = .ok (.aload_n 0, 1) := by decide +kernel
theorem dX7_swaps_53 : decode cX7_swaps 53 = .ok (.getfield 47, 3) := by decide +kernel
theorem dX7_swaps_56 : decode cX7_swaps 56 = .ok (.invokevirtual 147, 3) := by decide +kernel
theorem dX7_swaps_59 : decode cX7_swaps 59 = .ok (.pop, 1) := by decide +kernel
theorem dX7_swaps_60 : decode cX7_swaps 60 = .ok (.aload_n 0, 1) := by decide +kernel
theorem dX7_swaps_61 : decode cX7_swaps 61 = .ok (.getfield 47, 3) := by decide +kernel
theorem dX7_swaps_64 : decode cX7_swaps 64 = .ok (.invokevirtual 185, 3) := by decide +kernel
theorem dX7_swaps_67 : decode cX7_swaps 67 = .ok (.istore 6, 2) := by decide +kernel
theorem dX7_swaps_69 : decode cX7_swaps 69 = .ok (.iload 6, 2) := by decide +kernel
theorem dX7_swaps_71 : decode cX7_swaps 71 = .ok (.iload_n 3, 1) := by decide +kernel
theorem dX7_swaps_72 : decode cX7_swaps 72 = .ok (.if_icmp .le 10, 3) := by decide +kernel
theorem dX7_swaps_75 : decode cX7_swaps 75 = .ok (.iload 6, 2) := by decide +kernel
theorem dX7_swaps_77 : decode cX7_swaps 77 = .ok (.istore_n 3, 1) := by decide +kernel
theorem dX7_swaps_78 : decode cX7_swaps 78 = .ok (.iload 5, 2) := by decide +kernel
theorem dX7_swaps_80 : decode cX7_swaps 80 = .ok (.istore 4, 2) := by decide +kernel
theorem dX7_swaps_82 : decode cX7_swaps 82 = .ok (.iinc 5 1, 3) := by decide +kernel
theorem dX7_swaps_85 : decode cX7_swaps 85 = .ok (.goto (-40), 3) := by decide +kernel
theorem dX7_swaps_88 : decode cX7_swaps 88 = .ok (.iload_n 2, 1) := by decide +kernel
theorem dX7_swaps_89 : decode cX7_swaps 89 = .ok (.ifCond .ne 7, 3) := by decide +kernel
theorem dX7_swaps_92 : decode cX7_swaps 92 = .ok (.iload_n 3, 1) := by decide +kernel
theorem dX7_swaps_93 : decode cX7_swaps 93 = .ok (.goto 5, 3) := by decide +kernel
theorem dX7_swaps_96 : decode cX7_swaps 96 = .ok (.iload 4, 2) := by decide +kernel
theorem dX7_swaps_98 : decode cX7_swaps 98 = .ok (.ireturn, 1) := by decide +kernel
theorem dX7_simplest_0 : decode cX7_simplest 0 = .ok (.iload_n 1, 1) := by decide +kernel
theorem dX7_simplest_1 : decode cX7_simplest 1 = .ok (.iconst 1, 1) := by decide +kernel
theorem dX7_simplest_2 : decode cX7_simplest 2 = .ok (.sipush 300, 3) := by decide +kernel
theorem dX7_simplest_5 : decode cX7_simplest 5 = .ok (.invokestatic 75, 3) := by decide +kernel
theorem dX7_simplest_8 : decode cX7_simplest 8 = .ok (.ifCond .ne 10, 3) := by decide +kernel
theorem dX7_simplest_11 : decode cX7_simplest 11 = .ok (.aload_n 0, 1) := by decide +kernel
theorem dX7_simplest_12 : decode cX7_simplest 12 = .ok (.bipush (-2), 2) := by decide +kernel
theorem dX7_simplest_14 : decode cX7_simplest 14 = .ok (.invokevirtual 85, 3) := by decide +kernel
theorem dX7_simplest_17 : decode cX7_simplest 17 = .ok (.ireturn, 1) := by decide +kernel
theorem dX7_simplest_18 : decode cX7_simplest 18 = .ok (.iconst 0, 1) := by decide +kernel
theorem dX7_simplest_19 : decode cX7_simplest 19 = .ok (.istore_n 2, 1) := by decide +kernel
theorem dX7_simplest_20 : decode cX7_simplest 20 = .ok (.iload_n 2, 1) := by decide +kernel
theorem dX7_simplest_21 : decode cX7_simplest 21 = .ok (.bipush 20, 2) := by decide +kernel
theorem dX7_simplest_23 : decode cX7_simplest 23 = .ok (.if_icmp .gt 20, 3) := by decide +kernel
theorem dX7_simplest_26 : decode cX7_simplest 26 = .ok (.aload_n 0, 1) := by decide +kernel
theorem dX7_simplest_27 : decode cX7_simplest 27 = .ok (.iload_n 2, 1) := by decide +kernel
theorem dX7_simplest_28 : decode cX7_simplest 28 = .ok (.iload_n 1, 1) := by decide +kernel
theorem dX7_simplest_29 : decode cX7_simplest 29 = .ok (.invokevirtual 188, 3) := by decide +kernel
theorem dX7_simplest_32 : decode cX7_simplest 32 = .ok (.ifCond .eq 5, 3) := by decide +kernel
theorem dX7_simplest_35 : decode cX7_simplest 35 = .ok (.iload_n 2, 1) := by decide +kernel
theorem dX7_simplest_36 : decode cX7_simplest 36 = .ok (.ireturn, 1) := by decide +kernel
theorem dX7_simplest_37 : decode cX7_simplest 37 = .ok (.iinc 2 1, 3) := by decide +kernel
theorem dX7_simplest_40 : decode cX7_simplest 40 = .ok (.goto (-20), 3) := by decide +kernel
theorem dX7_simplest_43 : decode cX7_simplest 43 = .ok (.iconst (-1), 1) := by decide +kernel
theorem dX7_simplest_44 : decode cX7_simplest 44 = .ok (.ireturn, 1) := by decide +kernel
theorem dX7_image_0 : decode cX7_image 0 = .ok (.iload_n 1, 1) := by decide +kernel
theorem dX7_image_1 : decode cX7_image 1 = .ok (.iconst 0, 1) := by decide +kernel
theorem dX7_image_2 : decode cX7_image 2 = .ok (.iconst 1, 1) := by decide +kernel
theorem dX7_image_3 : decode cX7_image 3 = .ok (.invokestatic 75, 3) := by decide +kernel
theorem dX7_image_6 : decode cX7_image 6 = .ok (.ifCond .ne 10, 3) := by decide +kernel
theorem dX7_image_9 : decode cX7_image 9 = .ok (.aload_n 0, 1) := by decide +kernel
theorem dX7_image_10 : decode cX7_image 10 = .ok (.bipush (-2), 2) := by decide +kernel
theorem dX7_image_12 : decode cX7_image 12 = .ok (.invokevirtual 85, 3) := by decide +kernel
theorem dX7_image_15 : decode cX7_image 15 = .ok (.ireturn, 1) := by decide +kernel
theorem dX7_image_16 : decode cX7_image 16 = .ok (.aload_n 0, 1) := by decide +kernel
theorem dX7_image_17 : decode cX7_image 17 = .ok (.getfield 16, 3) := by decide +kernel
theorem dX7_image_20 : decode cX7_image 20 = .ok (.iload_n 1, 1) := by decide +kernel
theorem dX7_image_21 : decode cX7_image 21 = .ok (.aaload, 1) := by decide +kernel
theorem dX7_image_22 : decode cX7_image 22 = .ok (.aload_n 0, 1) := by decide +kernel
theorem dX7_image_23 : decode cX7_image 23 = .ok (.getfield 10, 3) := by decide +kernel
theorem dX7_image_26 : decode cX7_image 26 = .ok (.invokevirtual 192, 3) := by decide +kernel
theorem dX7_image_29 : decode cX7_image 29 = .ok (.aload_n 0, 1) := by decide +kernel
theorem dX7_image_30 : decode cX7_image 30 = .ok (.getfield 20, 3) := by decide +kernel
theorem dX7_image_33 : decode cX7_image 33 = .ok (.iload_n 1, 1) := by decide +kernel
theorem dX7_image_34 : decode cX7_image 34 = .ok (.iconst 1, 1) := by decide +kernel
theorem dX7_image_35 : decode cX7_image 35 = .ok (.bastore, 1) := by decide +kernel
theorem dX7_image_36 : decode cX7_image 36 = .ok (.iconst 1, 1) := by decide +kernel
theorem dX7_image_37 : decode cX7_image 37 = .ok (.ireturn, 1) := by decide +kernel
theorem dX7_from_0 : decode cX7_from 0 = .ok (.iload_n 1, 1) := by decide +kernel
theorem dX7_from_1 : decode cX7_from 1 = .ok (.iconst 0, 1) := by decide +kernel
theorem dX7_from_2 : decode cX7_from 2 = .ok (.iconst 1, 1) := by decide +kernel
theorem dX7_from_3 : decode cX7_from 3 = .ok (.invokestatic 75, 3) := by decide +kernel
theorem dX7_from_6 : decode cX7_from 6 = .ok (.ifCond .ne 10, 3) := by decide +kernel
theorem dX7_from_9 : decode cX7_from 9 = .ok (.aload_n 0, 1) := by decide +kernel
theorem dX7_from_10 : decode cX7_from 10 = .ok (.bipush (-2), 2) := by decide +kernel
theorem dX7_from_12 : decode cX7_from 12 = .ok (.invokevirtual 85, 3) := by decide +kernel
theorem dX7_from_15 : decode cX7_from 15 = .ok (.ireturn, 1) := by decide +kernel
theorem dX7_from_16 : decode cX7_from 16 = .ok (.aload_n 0, 1) := by decide +kernel
theorem dX7_from_17 : decode cX7_from 17 = .ok (.getfield 20, 3) := by decide +kernel
theorem dX7_from_20 : decode cX7_from 20 = .ok (.iload_n 1, 1) := by decide +kernel
theorem dX7_from_21 : decode cX7_from 21 = .ok (.baload, 1) := by decide +kernel
theorem dX7_from_22 : decode cX7_from 22 = .ok (.ifCond .ne 8, 3) := by decide +kernel
theorem dX7_from_25 : decode cX7_from 25 = .ok (.aload_n 0, 1) := by decide +kernel
theorem dX7_from_26 : decode cX7_from 26 = .ok (.invokevirtual 195, 3) := by decide +kernel
theorem dX7_from_29 : decode cX7_from 29 = .ok (.ireturn, 1) := by decide +kernel
theorem dX7_from_30 : decode cX7_from 30 = .ok (.aload_n 0, 1) := by decide +kernel
theorem dX7_from_31 : decode cX7_from 31 = .ok (.getfield 10, 3) := by decide +kernel
theorem dX7_from_34 : decode cX7_from 34 = .ok (.aload_n 0, 1) := by decide +kernel
theorem dX7_from_35 : decode cX7_from 35 = .ok (.getfield 16, 3) := by decide +kernel
theorem dX7_from_38 : decode cX7_from 38 = .ok (.iload_n 1, 1) := by decide +kernel
theorem dX7_from_39 : decode cX7_from 39 = .ok (.aaload, 1) := by decide +kernel
theorem dX7_from_40 : decode cX7_from 40 = .ok (.invokevirtual 192, 3) := by decide +kernel
theorem dX7_from_43 : decode cX7_from 43 = .ok (.aload_n 0, 1) := by decide +kernel
theorem dX7_from_44 : decode cX7_from 44 = .ok (.getfield 40, 3) := by decide +kernel
theorem dX7_from_47 : decode cX7_from 47 = .ok (.invokevirtual 105, 3) := by decide +kernel
theorem dX7_from_50 : decode cX7_from 50 = .ok (.iconst 1, 1) := by decide +kernel
theorem dX7_from_51 : decode cX7_from 51 = .ok (.ireturn, 1) := by decide +kernel
theorem dX7_status_0 : decode cX7_status 0 = .ok (.iload_n 1, 1) := by decide +kernel
theorem dX7_status_1 : decode cX7_status 1 = .ok (.tableswitch 57 0 3 #[31, 36, 41, 46], 31) := by decide +kernel
theorem dX7_status_32 : decode cX7_status 32 = .ok (.aload_n 0, 1) := by decide +kernel
theorem dX7_status_33 : decode cX7_status 33 = .ok (.getfield 66, 3) := by decide +kernel
theorem dX7_status_36 : decode cX7_status 36 = .ok (.ireturn, 1) := by decide +kernel
theorem dX7_status_37 : decode cX7_status 37 = .ok (.aload_n 0, 1) := by decide +kernel
theorem dX7_status_38 : decode cX7_status 38 = .ok (.getfield 69, 3) := by decide +kernel
theorem dX7_status_41 : decode cX7_status 41 = .ok (.ireturn, 1) := by decide +kernel
theorem dX7_status_42 : decode cX7_status 42 = .ok (.aload_n 0, 1) := by decide +kernel
theorem dX7_status_43 : decode cX7_status 43 = .ok (.getfield 72, 3) := by decide +kernel
theorem dX7_status_46 : decode cX7_status 46 = .ok (.ireturn, 1) := by decide +kernel
theorem dX7_status_47 : decode cX7_status 47 = .ok (.aload_n 0, 1) := by decide +kernel
theorem dX7_status_48 : decode cX7_status 48 = .ok (.getfield 10, 3) := by decide +kernel
theorem dX7_status_51 : decode cX7_status 51 = .ok (.getfield 115, 3) := by decide +kernel
theorem dX7_status_54 : decode cX7_status 54 = .ok (.getfield 119, 3) := by decide +kernel
theorem dX7_status_57 : decode cX7_status 57 = .ok (.ireturn, 1) := by decide +kernel
theorem dX7_status_58 : decode cX7_status 58 = .ok (.aload_n 0, 1) := by decide +kernel
theorem dX7_status_59 : decode cX7_status 59 = .ok (.iconst (-1), 1) := by decide +kernel
theorem dX7_status_60 : decode cX7_status 60 = .ok (.invokevirtual 85, 3) := by decide +kernel
theorem dX7_status_63 : decode cX7_status 63 = .ok (.ireturn, 1) := by decide +kernel
theorem dX7_digest_0 : decode cX7_digest 0 = .ok (.ldc2_w 198, 3) := by decide +kernel
theorem dX7_digest_3 : decode cX7_digest 3 = .ok (.lstore_n 1, 1) := by decide +kernel
theorem dX7_digest_4 : decode cX7_digest 4 = .ok (.iconst 0, 1) := by decide +kernel
theorem dX7_digest_5 : decode cX7_digest 5 = .ok (.istore_n 3, 1) := by decide +kernel
theorem dX7_digest_6 : decode cX7_digest 6 = .ok (.iload_n 3, 1) := by decide +kernel
theorem dX7_digest_7 : decode cX7_digest 7 = .ok (.bipush 8, 2) := by decide +kernel
theorem dX7_digest_9 : decode cX7_digest 9 = .ok (.if_icmp .ge 26, 3) := by decide +kernel
theorem dX7_digest_12 : decode cX7_digest 12 = .ok (.ldc2_w 200, 3) := by decide +kernel
theorem dX7_digest_15 : decode cX7_digest 15 = .ok (.lload_n 1, 1) := by decide +kernel
theorem dX7_digest_16 : decode cX7_digest 16 = .ok (.lmul, 1) := by decide +kernel
theorem dX7_digest_17 : decode cX7_digest 17 = .ok (.aload_n 0, 1) := by decide +kernel
theorem dX7_digest_18 : decode cX7_digest 18 = .ok (.getfield 10, 3) := by decide +kernel
theorem dX7_digest_21 : decode cX7_digest 21 = .ok (.getfield 89, 3) := by decide +kernel
theorem dX7_digest_24 : decode cX7_digest 24 = .ok (.iload_n 3, 1) := by decide +kernel
theorem dX7_digest_25 : decode cX7_digest 25 = .ok (.iaload, 1) := by decide +kernel
theorem dX7_digest_26 : decode cX7_digest 26 = .ok (.i2l, 1) := by decide +kernel
theorem dX7_digest_27 : decode cX7_digest 27 = .ok (.ladd, 1) := by decide +kernel
theorem dX7_digest_28 : decode cX7_digest 28 = .ok (.lstore_n 1, 1) := by decide +kernel
theorem dX7_digest_29 : decode cX7_digest 29 = .ok (.iinc 3 1, 3) := by decide +kernel
theorem dX7_digest_32 : decode cX7_digest 32 = .ok (.goto (-26), 3) := by decide +kernel
theorem dX7_digest_35 : decode cX7_digest 35 = .ok (.aload_n 0, 1) := by decide +kernel
theorem dX7_digest_36 : decode cX7_digest 36 = .ok (.getfield 10, 3) := by decide +kernel
theorem dX7_digest_39 : decode cX7_digest 39 = .ok (.getfield 33, 3) := by decide +kernel
theorem dX7_digest_42 : decode cX7_digest 42 = .ok (.lload_n 1, 1) := by decide +kernel
theorem dX7_digest_43 : decode cX7_digest 43 = .ok (.invokevirtual 202, 3) := by decide +kernel
theorem dX7_digest_46 : decode cX7_digest 46 = .ok (.lstore_n 1, 1) := by decide +kernel
theorem dX7_digest_47 : decode cX7_digest 47 = .ok (.aload_n 0, 1) := by decide +kernel
theorem dX7_digest_48 : decode cX7_digest 48 = .ok (.getfield 10, 3) := by decide +kernel
theorem dX7_digest_51 : decode cX7_digest 51 = .ok (.getfield 115, 3) := by decide +kernel
theorem dX7_digest_54 : decode cX7_digest 54 = .ok (.lload_n 1, 1) := by decide +kernel
theorem dX7_digest_55 : decode cX7_digest 55 = .ok (.invokevirtual 206, 3) := by decide +kernel
theorem dX7_digest_58 : decode cX7_digest 58 = .ok (.lstore_n 1, 1) := by decide +kernel
theorem dX7_digest_59 : decode cX7_digest 59 = .ok (.iconst 0, 1) := by decide +kernel
theorem dX7_digest_60 : decode cX7_digest 60 = .ok (.istore_n 3, 1) := by decide +kernel
theorem dX7_digest_61 : decode cX7_digest 61 = .ok (.iload_n 3, 1) := by decide +kernel
theorem dX7_digest_62 : decode cX7_digest 62 = .ok (.bipush 12, 2) := by decide +kernel
theorem dX7_digest_64 : decode cX7_digest 64 = .ok (.if_icmp .ge 22, 3) := by decide +kernel
theorem dX7_digest_67 : decode cX7_digest 67 = .ok (.ldc2_w 200, 3) := by decide +kernel
theorem dX7_digest_70 : decode cX7_digest 70 = .ok (.lload_n 1, 1) := by decide +kernel
theorem dX7_digest_71 : decode cX7_digest 71 = .ok (.lmul, 1) := by decide +kernel
theorem dX7_digest_72 : decode cX7_digest 72 = .ok (.aload_n 0, 1) := by decide +kernel
theorem dX7_digest_73 : decode cX7_digest 73 = .ok (.iload_n 3, 1) := by decide +kernel
theorem dX7_digest_74 : decode cX7_digest 74 = .ok (.invokevirtual 155, 3) := by decide +kernel
theorem dX7_digest_77 : decode cX7_digest 77 = .ok (.i2l, 1) := by decide +kernel
theorem dX7_digest_78 : decode cX7_digest 78 = .ok (.ladd, 1) := by decide +kernel
theorem dX7_digest_79 : decode cX7_digest 79 = .ok (.lstore_n 1, 1) := by decide +kernel
theorem dX7_digest_80 : decode cX7_digest 80 = .ok (.iinc 3 1, 3) := by decide +kernel
theorem dX7_digest_83 : decode cX7_digest 83 = .ok (.goto (-22), 3) := by decide +kernel
theorem dX7_digest_86 : decode cX7_digest 86 = .ok (.iconst 0, 1) := by decide +kernel
theorem dX7_digest_87 : decode cX7_digest 87 = .ok (.istore_n 3, 1) := by decide +kernel
theorem dX7_digest_88 : decode cX7_digest 88 = .ok (.iload_n 3, 1) := by decide +kernel
theorem dX7_digest_89 : decode cX7_digest 89 = .ok (.bipush 40, 2) := by decide +kernel
theorem dX7_digest_91 : decode cX7_digest 91 = .ok (.if_icmp .ge 28, 3) := by decide +kernel
theorem dX7_digest_94 : decode cX7_digest 94 = .ok (.ldc2_w 200, 3) := by decide +kernel
theorem dX7_digest_97 : decode cX7_digest 97 = .ok (.lload_n 1, 1) := by decide +kernel
theorem dX7_digest_98 : decode cX7_digest 98 = .ok (.lmul, 1) := by decide +kernel
theorem dX7_digest_99 : decode cX7_digest 99 = .ok (.aload_n 0, 1) := by decide +kernel
theorem dX7_digest_100 : decode cX7_digest 100 = .ok (.getfield 10, 3) := by decide +kernel
theorem dX7_digest_103 : decode cX7_digest 103 = .ok (.getfield 135, 3) := by decide +kernel
theorem dX7_digest_106 : decode cX7_digest 106 = .ok (.iload_n 3, 1) := by decide +kernel
theorem dX7_digest_107 : decode cX7_digest 107 = .ok (.invokevirtual 159, 3) := by decide +kernel
theorem dX7_digest_110 : decode cX7_digest 110 = .ok (.i2l, 1) := by decide +kernel
theorem dX7_digest_111 : decode cX7_digest 111 = .ok (.ladd, 1) := by decide +kernel
theorem dX7_digest_112 : decode cX7_digest 112 = .ok (.lstore_n 1, 1) := by decide +kernel
theorem dX7_digest_113 : decode cX7_digest 113 = .ok (.iinc 3 1, 3) := by decide +kernel
theorem dX7_digest_116 : decode cX7_digest 116 = .ok (.goto (-28), 3) := by decide +kernel
theorem dX7_digest_119 : decode cX7_digest 119 = .ok (.lload_n 1, 1) := by decide +kernel
theorem dX7_digest_120 : decode cX7_digest 120 = .ok (.lreturn, 1) := by decide +kernel
theorem dX7_refusedAsBad_0 : decode cX7_refusedAsBad 0 = .ok (.aload_n 0, 1) := by decide +kernel
theorem dX7_refusedAsBad_1 : decode cX7_refusedAsBad 1 = .ok (.dup, 1) := by decide +kernel
theorem dX7_refusedAsBad_2 : decode cX7_refusedAsBad 2 = .ok (.getfield 66, 3) := by decide +kernel
theorem dX7_refusedAsBad_5 : decode cX7_refusedAsBad 5 = .ok (.iconst 1, 1) := by decide +kernel
theorem dX7_refusedAsBad_6 : decode cX7_refusedAsBad 6 = .ok (.iadd, 1) := by decide +kernel
theorem dX7_refusedAsBad_7 : decode cX7_refusedAsBad 7 = .ok (.putfield 66, 3) := by decide +kernel
theorem dX7_refusedAsBad_10 : decode cX7_refusedAsBad 10 = .ok (.iload_n 1, 1) := by decide +kernel
theorem dX7_refusedAsBad_11 : decode cX7_refusedAsBad 11 = .ok (.ireturn, 1) := by decide +kernel
theorem dX7_refusedAsNo_0 : decode cX7_refusedAsNo 0 = .ok (.aload_n 0, 1) := by decide +kernel
theorem dX7_refusedAsNo_1 : decode cX7_refusedAsNo 1 = .ok (.dup, 1) := by decide +kernel
theorem dX7_refusedAsNo_2 : decode cX7_refusedAsNo 2 = .ok (.getfield 69, 3) := by decide +kernel
theorem dX7_refusedAsNo_5 : decode cX7_refusedAsNo 5 = .ok (.iconst 1, 1) := by decide +kernel
theorem dX7_refusedAsNo_6 : decode cX7_refusedAsNo 6 = .ok (.iadd, 1) := by decide +kernel
theorem dX7_refusedAsNo_7 : decode cX7_refusedAsNo 7 = .ok (.putfield 69, 3) := by decide +kernel
theorem dX7_refusedAsNo_10 : decode cX7_refusedAsNo 10 = .ok (.bipush (-3), 2) := by decide +kernel
theorem dX7_refusedAsNo_12 : decode cX7_refusedAsNo 12 = .ok (.ireturn, 1) := by decide +kernel
theorem dX7_refusedAsFull_0 : decode cX7_refusedAsFull 0 = .ok (.aload_n 0, 1) := by decide +kernel
theorem dX7_refusedAsFull_1 : decode cX7_refusedAsFull 1 = .ok (.dup, 1) := by decide +kernel
theorem dX7_refusedAsFull_2 : decode cX7_refusedAsFull 2 = .ok (.getfield 72, 3) := by decide +kernel
theorem dX7_refusedAsFull_5 : decode cX7_refusedAsFull 5 = .ok (.iconst 1, 1) := by decide +kernel
theorem dX7_refusedAsFull_6 : decode cX7_refusedAsFull 6 = .ok (.iadd, 1) := by decide +kernel
theorem dX7_refusedAsFull_7 : decode cX7_refusedAsFull 7 = .ok (.putfield 72, 3) := by decide +kernel
theorem dX7_refusedAsFull_10 : decode cX7_refusedAsFull 10 = .ok (.bipush (-4), 2) := by decide +kernel
theorem dX7_refusedAsFull_12 : decode cX7_refusedAsFull 12 = .ok (.ireturn, 1) := by decide +kernel
theorem dX7_within_0 : decode cX7_within 0 = .ok (.iload_n 0, 1) := by decide +kernel
theorem dX7_within_1 : decode cX7_within 1 = .ok (.iload_n 1, 1) := by decide +kernel
theorem dX7_within_2 : decode cX7_within 2 = .ok (.if_icmp .lt 12, 3) := by decide +kernel
theorem dX7_within_5 : decode cX7_within 5 = .ok (.iload_n 0, 1) := by decide +kernel
theorem dX7_within_6 : decode cX7_within 6 = .ok (.iload_n 2, 1) := by decide +kernel
theorem dX7_within_7 : decode cX7_within 7 = .ok (.if_icmp .gt 7, 3) := by decide +kernel
theorem dX7_within_10 : decode cX7_within 10 = .ok (.iconst 1, 1) := by decide +kernel
theorem dX7_within_11 : decode cX7_within 11 = .ok (.goto 4, 3) := by decide +kernel
theorem dX7_within_14 : decode cX7_within 14 = .ok (.iconst 0, 1) := by decide +kernel
theorem dX7_within_15 : decode cX7_within 15 = .ok (.ireturn, 1) := by decide +kernel
theorem dX7_isForce_0 : decode cX7_isForce 0 = .ok (.iload_n 0, 1) := by decide +kernel
theorem dX7_isForce_1 : decode cX7_isForce 1 = .ok (.sipush (-30000), 3) := by decide +kernel
theorem dX7_isForce_4 : decode cX7_isForce 4 = .ok (.sipush 30000, 3) := by decide +kernel
theorem dX7_isForce_7 : decode cX7_isForce 7 = .ok (.invokestatic 75, 3) := by decide +kernel
theorem dX7_isForce_10 : decode cX7_isForce 10 = .ok (.ireturn, 1) := by decide +kernel
theorem dX7_isRun_0 : decode cX7_isRun 0 = .ok (.iload_n 0, 1) := by decide +kernel
theorem dX7_isRun_1 : decode cX7_isRun 1 = .ok (.iconst 1, 1) := by decide +kernel
theorem dX7_isRun_2 : decode cX7_isRun 2 = .ok (.sipush 500, 3) := by decide +kernel
theorem dX7_isRun_5 : decode cX7_isRun 5 = .ok (.invokestatic 75, 3) := by decide +kernel
theorem dX7_isRun_8 : decode cX7_isRun 8 = .ok (.ireturn, 1) := by decide +kernel
theorem dX7_valueTold_0 : decode cX7_valueTold 0 = .ok (.iload_n 1, 1) := by decide +kernel
theorem dX7_valueTold_1 : decode cX7_valueTold 1 = .ok (.bipush 6, 2) := by decide +kernel
theorem dX7_valueTold_3 : decode cX7_valueTold 3 = .ok (.if_icmp .ne 16, 3) := by decide +kernel
theorem dX7_valueTold_6 : decode cX7_valueTold 6 = .ok (.aload_n 0, 1) := by decide +kernel
theorem dX7_valueTold_7 : decode cX7_valueTold 7 = .ok (.getfield 10, 3) := by decide +kernel
theorem dX7_valueTold_10 : decode cX7_valueTold 10 = .ok (.getfield 135, 3) := by decide +kernel
theorem dX7_valueTold_13 : decode cX7_valueTold 13 = .ok (.getfield 207, 3) := by decide +kernel
theorem dX7_valueTold_16 : decode cX7_valueTold 16 = .ok (.goto 14, 3) := by decide +kernel
theorem dX7_valueTold_19 : decode cX7_valueTold 19 = .ok (.aload_n 0, 1) := by decide +kernel
theorem dX7_valueTold_20 : decode cX7_valueTold 20 = .ok (.getfield 10, 3) := by decide +kernel
theorem dX7_valueTold_23 : decode cX7_valueTold 23 = .ok (.getfield 129, 3) := by decide +kernel
theorem dX7_valueTold_26 : decode cX7_valueTold 26 = .ok (.iload_n 1, 1) := by decide +kernel
theorem dX7_valueTold_27 : decode cX7_valueTold 27 = .ok (.invokevirtual 208, 3) := by decide +kernel
theorem dX7_valueTold_30 : decode cX7_valueTold 30 = .ok (.ireturn, 1) := by decide +kernel
theorem dX7_stepByLaw_0 : decode cX7_stepByLaw 0 = .ok (.aload_n 0, 1) := by decide +kernel
theorem dX7_stepByLaw_1 : decode cX7_stepByLaw 1 = .ok (.aload_n 1, 1) := by decide +kernel
theorem dX7_stepByLaw_2 : decode cX7_stepByLaw 2 = .ok (.aload_n 0, 1) := by decide +kernel
theorem dX7_stepByLaw_3 : decode cX7_stepByLaw 3 = .ok (.getfield 27, 3) := by decide +kernel
theorem dX7_stepByLaw_6 : decode cX7_stepByLaw 6 = .ok (.aload_n 1, 1) := by decide +kernel
theorem dX7_stepByLaw_7 : decode cX7_stepByLaw 7 = .ok (.invokevirtual 209, 3) := by decide +kernel
theorem dX7_stepByLaw_10 : decode cX7_stepByLaw 10 = .ok (.iconst 0, 1) := by decide +kernel
theorem dX7_stepByLaw_11 : decode cX7_stepByLaw 11 = .ok (.invokevirtual 213, 3) := by decide +kernel
theorem dX7_stepByLaw_14 : decode cX7_stepByLaw 14 = .ok (.ireturn, 1) := by decide +kernel
theorem dX7_stepWishing_0 : decode cX7_stepWishing 0 = .ok (.aload_n 1, 1) := by decide +kernel
theorem dX7_stepWishing_1 : decode cX7_stepWishing 1 = .ok (.aload_n 0, 1) := by decide +kernel
theorem dX7_stepWishing_2 : decode cX7_stepWishing 2 = .ok (.getfield 10, 3) := by decide +kernel
theorem dX7_stepWishing_5 : decode cX7_stepWishing 5 = .ok (.getfield 89, 3) := by decide +kernel
theorem dX7_stepWishing_8 : decode cX7_stepWishing 8 = .ok (.iload_n 2, 1) := by decide +kernel
theorem dX7_stepWishing_9 : decode cX7_stepWishing 9 = .ok (.aload_n 0, 1) := by decide +kernel
theorem dX7_stepWishing_10 : decode cX7_stepWishing 10 = .ok (.getfield 10, 3) := by decide +kernel
theorem dX7_stepWishing_13 : decode cX7_stepWishing 13 = .ok (.getfield 115, 3) := by decide +kernel
theorem dX7_stepWishing_16 : decode cX7_stepWishing 16 = .ok (.aload_n 1, 1) := by decide +kernel
theorem dX7_stepWishing_17 : decode cX7_stepWishing 17 = .ok (.getfield 217, 3) := by decide +kernel
theorem dX7_stepWishing_20 : decode cX7_stepWishing 20 = .ok (.invokevirtual 220, 3) := by decide +kernel
theorem dX7_stepWishing_23 : decode cX7_stepWishing 23 = .ok (.iload_n 3, 1) := by decide +kernel
theorem dX7_stepWishing_24 : decode cX7_stepWishing 24 = .ok (.iadd, 1) := by decide +kernel
theorem dX7_stepWishing_25 : decode cX7_stepWishing 25 = .ok (.invokevirtual 223, 3) := by decide +kernel
theorem dX7_stepWishing_28 : decode cX7_stepWishing 28 = .ok (.ireturn, 1) := by decide +kernel
theorem dX7_peakWith_0 : decode cX7_peakWith 0 = .ok (.aload_n 0, 1) := by decide +kernel
theorem dX7_peakWith_1 : decode cX7_peakWith 1 = .ok (.getfield 47, 3) := by decide +kernel
theorem dX7_peakWith_4 : decode cX7_peakWith 4 = .ok (.aload_n 0, 1) := by decide +kernel
theorem dX7_peakWith_5 : decode cX7_peakWith 5 = .ok (.getfield 10, 3) := by decide +kernel
theorem dX7_peakWith_8 : decode cX7_peakWith 8 = .ok (.getfield 129, 3) := by decide +kernel
theorem dX7_peakWith_11 : decode cX7_peakWith 11 = .ok (.invokevirtual 166, 3) := by decide +kernel
theorem dX7_peakWith_14 : decode cX7_peakWith 14 = .ok (.iconst 0, 1) := by decide +kernel
theorem dX7_peakWith_15 : decode cX7_peakWith 15 = .ok (.istore 4, 2) := by decide +kernel
theorem dX7_peakWith_17 : decode cX7_peakWith 17 = .ok (.iconst 0, 1) := by decide +kernel
theorem dX7_peakWith_18 : decode cX7_peakWith 18 = .ok (.istore 5, 2) := by decide +kernel
theorem dX7_peakWith_20 : decode cX7_peakWith 20 = .ok (.iload 5, 2) := by decide +kernel
theorem dX7_peakWith_22 : decode cX7_peakWith 22 = .ok (.iload_n 3, 1) := by decide +kernel
theorem dX7_peakWith_23 : decode cX7_peakWith 23 = .ok (.if_icmp .ge 54, 3) := by decide +kernel
theorem dX7_peakWith_26 : decode cX7_peakWith 26 = .ok (.aload_n 0, 1) := by decide +kernel
theorem dX7_peakWith_27 : decode cX7_peakWith 27 = .ok (.aload_n 0, 1) := by decide +kernel
theorem dX7_peakWith_28 : decode cX7_peakWith 28 = .ok (.getfield 47, 3) := by decide +kernel
theorem dX7_peakWith_31 : decode cX7_peakWith 31 = .ok (.aload_n 0, 1) := by decide +kernel
theorem dX7_peakWith_32 : decode cX7_peakWith 32 = .ok (.getfield 27, 3) := by decide +kernel
theorem dX7_peakWith_35 : decode cX7_peakWith 35 = .ok (.aload_n 0, 1) := by decide +kernel
theorem dX7_peakWith_36 : decode cX7_peakWith 36 = .ok (.getfield 47, 3) := by decide +kernel
theorem dX7_peakWith_39 : decode cX7_peakWith 39 = .ok (.invokevirtual 209, 3) := by decide +kernel
theorem dX7_peakWith_42 : decode cX7_peakWith 42 = .ok (.iload 5, 2) := by decide +kernel
theorem dX7_peakWith_44 : decode cX7_peakWith 44 = .ok (.iload_n 1, 1) := by decide +kernel
theorem dX7_peakWith_45 : decode cX7_peakWith 45 = .ok (.if_icmp .ne 7, 3) := by decide +kernel
theorem dX7_peakWith_48 : decode cX7_peakWith 48 = .ok (.iload_n 2, 1) := by decide +kernel
theorem dX7_peakWith_49 : decode cX7_peakWith 49 = .ok (.goto 4, 3) := by decide +kernel
theorem dX7_peakWith_52 : decode cX7_peakWith 52 = .ok (.iconst 0, 1) := by decide +kernel
theorem dX7_peakWith_53 : decode cX7_peakWith 53 = .ok (.invokevirtual 213, 3) := by decide +kernel
theorem dX7_peakWith_56 : decode cX7_peakWith 56 = .ok (.pop, 1) := by decide +kernel
theorem dX7_peakWith_57 : decode cX7_peakWith 57 = .ok (.iload 4, 2) := by decide +kernel
theorem dX7_peakWith_59 : decode cX7_peakWith 59 = .ok (.aload_n 0, 1) := by decide +kernel
theorem dX7_peakWith_60 : decode cX7_peakWith 60 = .ok (.getfield 47, 3) := by decide +kernel
theorem dX7_peakWith_63 : decode cX7_peakWith 63 = .ok (.invokevirtual 173, 3) := by decide +kernel
theorem dX7_peakWith_66 : decode cX7_peakWith 66 = .ok (.invokestatic 227, 3) := by decide +kernel
theorem dX7_peakWith_69 : decode cX7_peakWith 69 = .ok (.istore 4, 2) := by decide +kernel
theorem dX7_peakWith_71 : decode cX7_peakWith 71 = .ok (.iinc 5 1, 3) := by decide +kernel
theorem dX7_peakWith_74 : decode cX7_peakWith 74 = .ok (.goto (-54), 3) := by decide +kernel
theorem dX7_peakWith_77 : decode cX7_peakWith 77 = .ok (.iload 4, 2) := by decide +kernel
theorem dX7_peakWith_79 : decode cX7_peakWith 79 = .ok (.ireturn, 1) := by decide +kernel
theorem dX7_tryRowFrom_0 : decode cX7_tryRowFrom 0 = .ok (.iload_n 1, 1) := by decide +kernel
theorem dX7_tryRowFrom_1 : decode cX7_tryRowFrom 1 = .ok (.iconst 5, 1) := by decide +kernel
theorem dX7_tryRowFrom_2 : decode cX7_tryRowFrom 2 = .ok (.if_icmp .lt 9, 3) := by decide +kernel
theorem dX7_tryRowFrom_5 : decode cX7_tryRowFrom 5 = .ok (.aload_n 0, 1) := by decide +kernel
theorem dX7_tryRowFrom_6 : decode cX7_tryRowFrom 6 = .ok (.iload_n 3, 1) := by decide +kernel
theorem dX7_tryRowFrom_7 : decode cX7_tryRowFrom 7 = .ok (.invokevirtual 233, 3) := by decide +kernel
theorem dX7_tryRowFrom_10 : decode cX7_tryRowFrom 10 = .ok (.return_, 1) := by decide +kernel
theorem dX7_tryRowFrom_11 : decode cX7_tryRowFrom 11 = .ok (.iconst 0, 1) := by decide +kernel
theorem dX7_tryRowFrom_12 : decode cX7_tryRowFrom 12 = .ok (.istore 4, 2) := by decide +kernel
theorem dX7_tryRowFrom_14 : decode cX7_tryRowFrom 14 = .ok (.iload 4, 2) := by decide +kernel
theorem dX7_tryRowFrom_16 : decode cX7_tryRowFrom 16 = .ok (.getstatic 236, 3) := by decide +kernel
theorem dX7_tryRowFrom_19 : decode cX7_tryRowFrom 19 = .ok (.arraylength, 1) := by decide +kernel
theorem dX7_tryRowFrom_20 : decode cX7_tryRowFrom 20 = .ok (.if_icmp .ge 96, 3) := by decide +kernel
theorem dX7_tryRowFrom_23 : decode cX7_tryRowFrom 23 = .ok (.aload_n 0, 1) := by decide +kernel
theorem dX7_tryRowFrom_24 : decode cX7_tryRowFrom 24 = .ok (.getfield 51, 3) := by decide +kernel
theorem dX7_tryRowFrom_27 : decode cX7_tryRowFrom 27 = .ok (.iload_n 1, 1) := by decide +kernel
theorem dX7_tryRowFrom_28 : decode cX7_tryRowFrom 28 = .ok (.iconst 1, 1) := by decide +kernel
theorem dX7_tryRowFrom_29 : decode cX7_tryRowFrom 29 = .ok (.iadd, 1) := by decide +kernel
theorem dX7_tryRowFrom_30 : decode cX7_tryRowFrom 30 = .ok (.aaload, 1) := by decide +kernel
theorem dX7_tryRowFrom_31 : decode cX7_tryRowFrom 31 = .ok (.astore 5, 2) := by decide +kernel
theorem dX7_tryRowFrom_33 : decode cX7_tryRowFrom 33 = .ok (.aload 5, 2) := by decide +kernel
theorem dX7_tryRowFrom_35 : decode cX7_tryRowFrom 35 = .ok (.aload_n 0, 1) := by decide +kernel
theorem dX7_tryRowFrom_36 : decode cX7_tryRowFrom 36 = .ok (.getfield 51, 3) := by decide +kernel
theorem dX7_tryRowFrom_39 : decode cX7_tryRowFrom 39 = .ok (.iload_n 1, 1) := by decide +kernel
theorem dX7_tryRowFrom_40 : decode cX7_tryRowFrom 40 = .ok (.aaload, 1) := by decide +kernel
theorem dX7_tryRowFrom_41 : decode cX7_tryRowFrom 41 = .ok (.invokevirtual 166, 3) := by decide +kernel
theorem dX7_tryRowFrom_44 : decode cX7_tryRowFrom 44 = .ok (.aload_n 0, 1) := by decide +kernel
theorem dX7_tryRowFrom_45 : decode cX7_tryRowFrom 45 = .ok (.getfield 55, 3) := by decide +kernel
theorem dX7_tryRowFrom_48 : decode cX7_tryRowFrom 48 = .ok (.iload_n 1, 1) := by decide +kernel
theorem dX7_tryRowFrom_49 : decode cX7_tryRowFrom 49 = .ok (.getstatic 236, 3) := by decide +kernel
theorem dX7_tryRowFrom_52 : decode cX7_tryRowFrom 52 = .ok (.iload 4, 2) := by decide +kernel
theorem dX7_tryRowFrom_54 : decode cX7_tryRowFrom 54 = .ok (.iaload, 1) := by decide +kernel
theorem dX7_tryRowFrom_55 : decode cX7_tryRowFrom 55 = .ok (.iastore, 1) := by decide +kernel
theorem dX7_tryRowFrom_56 : decode cX7_tryRowFrom 56 = .ok (.iload_n 3, 1) := by decide +kernel
theorem dX7_tryRowFrom_57 : decode cX7_tryRowFrom 57 = .ok (.istore 6, 2) := by decide +kernel
theorem dX7_tryRowFrom_59 : decode cX7_tryRowFrom 59 = .ok (.iconst 0, 1) := by decide +kernel
theorem dX7_tryRowFrom_60 : decode cX7_tryRowFrom 60 = .ok (.istore 7, 2) := by decide +kernel
theorem dX7_tryRowFrom_62 : decode cX7_tryRowFrom 62 = .ok (.iload 7, 2) := by decide +kernel
theorem dX7_tryRowFrom_64 : decode cX7_tryRowFrom 64 = .ok (.iload_n 2, 1) := by decide +kernel
theorem dX7_tryRowFrom_65 : decode cX7_tryRowFrom 65 = .ok (.if_icmp .ge 35, 3) := by decide +kernel
theorem dX7_tryRowFrom_68 : decode cX7_tryRowFrom 68 = .ok (.aload_n 0, 1) := by decide +kernel
theorem dX7_tryRowFrom_69 : decode cX7_tryRowFrom 69 = .ok (.aload 5, 2) := by decide +kernel
theorem dX7_tryRowFrom_71 : decode cX7_tryRowFrom 71 = .ok (.aload_n 0, 1) := by decide +kernel
theorem dX7_tryRowFrom_72 : decode cX7_tryRowFrom 72 = .ok (.getfield 55, 3) := by decide +kernel
theorem dX7_tryRowFrom_75 : decode cX7_tryRowFrom 75 = .ok (.iload_n 1, 1) := by decide +kernel
theorem dX7_tryRowFrom_76 : decode cX7_tryRowFrom 76 = .ok (.iaload, 1) := by decide +kernel
theorem dX7_tryRowFrom_77 : decode cX7_tryRowFrom 77 = .ok (.iconst 0, 1) := by decide +kernel
theorem dX7_tryRowFrom_78 : decode cX7_tryRowFrom 78 = .ok (.invokevirtual 213, 3) := by decide +kernel
theorem dX7_tryRowFrom_81 : decode cX7_tryRowFrom 81 = .ok (.pop, 1) := by decide +kernel
theorem dX7_tryRowFrom_82 : decode cX7_tryRowFrom 82 = .ok (.iload 6, 2) := by decide +kernel
theorem dX7_tryRowFrom_84 : decode cX7_tryRowFrom 84 = .ok (.aload 5, 2) := by decide +kernel
theorem dX7_tryRowFrom_86 : decode cX7_tryRowFrom 86 = .ok (.invokevirtual 173, 3) := by decide +kernel
theorem dX7_tryRowFrom_89 : decode cX7_tryRowFrom 89 = .ok (.invokestatic 227, 3) := by decide +kernel
theorem dX7_tryRowFrom_92 : decode cX7_tryRowFrom 92 = .ok (.istore 6, 2) := by decide +kernel
theorem dX7_tryRowFrom_94 : decode cX7_tryRowFrom 94 = .ok (.iinc 7 1, 3) := by decide +kernel
theorem dX7_tryRowFrom_97 : decode cX7_tryRowFrom 97 = .ok (.goto (-35), 3) := by decide +kernel
theorem dX7_tryRowFrom_100 : decode cX7_tryRowFrom 100 = .ok (.aload_n 0, 1) := by decide +kernel
theorem dX7_tryRowFrom_101 : decode cX7_tryRowFrom 101 = .ok (.iload_n 1, 1) := by decide +kernel
theorem dX7_tryRowFrom_102 : decode cX7_tryRowFrom 102 = .ok (.iconst 1, 1) := by decide +kernel
theorem dX7_tryRowFrom_103 : decode cX7_tryRowFrom 103 = .ok (.iadd, 1) := by decide +kernel
theorem dX7_tryRowFrom_104 : decode cX7_tryRowFrom 104 = .ok (.iload_n 2, 1) := by decide +kernel
theorem dX7_tryRowFrom_105 : decode cX7_tryRowFrom 105 = .ok (.iload 6, 2) := by decide +kernel
theorem dX7_tryRowFrom_107 : decode cX7_tryRowFrom 107 = .ok (.invokevirtual 176, 3) := by decide +kernel
theorem dX7_tryRowFrom_110 : decode cX7_tryRowFrom 110 = .ok (.iinc 4 1, 3) := by decide +kernel
theorem dX7_tryRowFrom_113 : decode cX7_tryRowFrom 113 = .ok (.goto (-99), 3) := by decide +kernel
theorem dX7_tryRowFrom_116 : decode cX7_tryRowFrom 116 = .ok (.return_, 1) := by decide +kernel
theorem dX7_keepRowIfHigher_0 : decode cX7_keepRowIfHigher 0 = .ok (.iload_n 1, 1) := by decide +kernel
theorem dX7_keepRowIfHigher_1 : decode cX7_keepRowIfHigher 1 = .ok (.aload_n 0, 1) := by decide +kernel
theorem dX7_keepRowIfHigher_2 : decode cX7_keepRowIfHigher 2 = .ok (.getfield 62, 3) := by decide +kernel
theorem dX7_keepRowIfHigher_5 : decode cX7_keepRowIfHigher 5 = .ok (.if_icmp .le 22, 3) := by decide +kernel
theorem dX7_keepRowIfHigher_8 : decode cX7_keepRowIfHigher 8 = .ok (.aload_n 0, 1) := by decide +kernel
theorem dX7_keepRowIfHigher_9 : decode cX7_keepRowIfHigher 9 = .ok (.iload_n 1, 1) := by decide +kernel
theorem dX7_keepRowIfHigher_10 : decode cX7_keepRowIfHigher 10 = .ok (.putfield 62, 3) := by decide +kernel
theorem dX7_keepRowIfHigher_13 : decode cX7_keepRowIfHigher 13 = .ok (.aload_n 0, 1) := by decide +kernel
theorem dX7_keepRowIfHigher_14 : decode cX7_keepRowIfHigher 14 = .ok (.getfield 55, 3) := by decide +kernel
theorem dX7_keepRowIfHigher_17 : decode cX7_keepRowIfHigher 17 = .ok (.iconst 0, 1) := by decide +kernel
theorem dX7_keepRowIfHigher_18 : decode cX7_keepRowIfHigher 18 = .ok (.aload_n 0, 1) := by decide +kernel
theorem dX7_keepRowIfHigher_19 : decode cX7_keepRowIfHigher 19 = .ok (.getfield 59, 3) := by decide +kernel
theorem dX7_keepRowIfHigher_22 : decode cX7_keepRowIfHigher 22 = .ok (.iconst 0, 1) := by decide +kernel
theorem dX7_keepRowIfHigher_23 : decode cX7_keepRowIfHigher 23 = .ok (.iconst 5, 1) := by decide +kernel
theorem dX7_keepRowIfHigher_24 : decode cX7_keepRowIfHigher 24 = .ok (.invokestatic 239, 3) := by decide +kernel
theorem dX7_keepRowIfHigher_27 : decode cX7_keepRowIfHigher 27 = .ok (.return_, 1) := by decide +kernel
theorem dX7_pumps_0 : decode cX7_pumps 0 = .ok (.iconst 0, 1) := by decide +kernel
theorem dX7_pumps_1 : decode cX7_pumps 1 = .ok (.istore_n 3, 1) := by decide +kernel
theorem dX7_pumps_2 : decode cX7_pumps 2 = .ok (.iload_n 3, 1) := by decide +kernel
theorem dX7_pumps_3 : decode cX7_pumps 3 = .ok (.getstatic 245, 3) := by decide +kernel
theorem dX7_pumps_6 : decode cX7_pumps 6 = .ok (.arraylength, 1) := by decide +kernel
theorem dX7_pumps_7 : decode cX7_pumps 7 = .ok (.if_icmp .ge 30, 3) := by decide +kernel
theorem dX7_pumps_10 : decode cX7_pumps 10 = .ok (.aload_n 0, 1) := by decide +kernel
theorem dX7_pumps_11 : decode cX7_pumps 11 = .ok (.iload_n 1, 1) := by decide +kernel
theorem dX7_pumps_12 : decode cX7_pumps 12 = .ok (.getstatic 245, 3) := by decide +kernel
theorem dX7_pumps_15 : decode cX7_pumps 15 = .ok (.iload_n 3, 1) := by decide +kernel
theorem dX7_pumps_16 : decode cX7_pumps 16 = .ok (.iaload, 1) := by decide +kernel
theorem dX7_pumps_17 : decode cX7_pumps 17 = .ok (.iload_n 2, 1) := by decide +kernel
theorem dX7_pumps_18 : decode cX7_pumps 18 = .ok (.invokevirtual 248, 3) := by decide +kernel
theorem dX7_pumps_21 : decode cX7_pumps 21 = .ok (.getstatic 245, 3) := by decide +kernel
theorem dX7_pumps_24 : decode cX7_pumps 24 = .ok (.iload_n 3, 1) := by decide +kernel
theorem dX7_pumps_25 : decode cX7_pumps 25 = .ok (.iaload, 1) := by decide +kernel
theorem dX7_pumps_26 : decode cX7_pumps 26 = .ok (.if_icmp .gt 5, 3) := by decide +kernel
theorem dX7_pumps_29 : decode cX7_pumps 29 = .ok (.iconst 0, 1) := by decide +kernel
theorem dX7_pumps_30 : decode cX7_pumps 30 = .ok (.ireturn, 1) := by decide +kernel
theorem dX7_pumps_31 : decode cX7_pumps 31 = .ok (.iinc 3 1, 3) := by decide +kernel
theorem dX7_pumps_34 : decode cX7_pumps 34 = .ok (.goto (-32), 3) := by decide +kernel
theorem dX7_pumps_37 : decode cX7_pumps 37 = .ok (.iconst 1, 1) := by decide +kernel
theorem dX7_pumps_38 : decode cX7_pumps 38 = .ok (.ireturn, 1) := by decide +kernel
theorem dX7_lastTurnByRule_0 : decode cX7_lastTurnByRule 0 = .ok (.aload_n 0, 1) := by decide +kernel
theorem dX7_lastTurnByRule_1 : decode cX7_lastTurnByRule 1 = .ok (.getfield 47, 3) := by decide +kernel
theorem dX7_lastTurnByRule_4 : decode cX7_lastTurnByRule 4 = .ok (.aload_n 0, 1) := by decide +kernel
theorem dX7_lastTurnByRule_5 : decode cX7_lastTurnByRule 5 = .ok (.getfield 10, 3) := by decide +kernel
theorem dX7_lastTurnByRule_8 : decode cX7_lastTurnByRule 8 = .ok (.getfield 129, 3) := by decide +kernel
theorem dX7_lastTurnByRule_11 : decode cX7_lastTurnByRule 11 = .ok (.invokevirtual 166, 3) := by decide +kernel
theorem dX7_lastTurnByRule_14 : decode cX7_lastTurnByRule 14 = .ok (.aload_n 0, 1) := by decide +kernel
theorem dX7_lastTurnByRule_15 : decode cX7_lastTurnByRule 15 = .ok (.getfield 47, 3) := by decide +kernel
theorem dX7_lastTurnByRule_18 : decode cX7_lastTurnByRule 18 = .ok (.iload_n 2, 1) := by decide +kernel
theorem dX7_lastTurnByRule_19 : decode cX7_lastTurnByRule 19 = .ok (.invokevirtual 170, 3) := by decide +kernel
theorem dX7_lastTurnByRule_22 : decode cX7_lastTurnByRule 22 = .ok (.iconst (-1), 1) := by decide +kernel
theorem dX7_lastTurnByRule_23 : decode cX7_lastTurnByRule 23 = .ok (.istore 4, 2) := by decide +kernel
theorem dX7_lastTurnByRule_25 : decode cX7_lastTurnByRule 25 = .ok (.iconst 0, 1) := by decide +kernel
theorem dX7_lastTurnByRule_26 : decode cX7_lastTurnByRule 26 = .ok (.istore 5, 2) := by decide +kernel
theorem dX7_lastTurnByRule_28 : decode cX7_lastTurnByRule 28 = .ok (.iload 5, 2) := by decide +kernel
theorem dX7_lastTurnByRule_30 : decode cX7_lastTurnByRule 30 = .ok (.iload_n 3, 1) := by decide +kernel
theorem dX7_lastTurnByRule_31 : decode cX7_lastTurnByRule 31 = .ok (.if_icmp .ge 54, 3) := by decide +kernel
theorem dX7_lastTurnByRule_34 : decode cX7_lastTurnByRule 34 = .ok (.aload_n 0, 1) := by decide +kernel
theorem dX7_lastTurnByRule_35 : decode cX7_lastTurnByRule 35 = .ok (.getfield 47, 3) := by decide +kernel
theorem dX7_lastTurnByRule_38 : decode cX7_lastTurnByRule 38 = .ok (.invokevirtual 173, 3) := by decide +kernel
theorem dX7_lastTurnByRule_41 : decode cX7_lastTurnByRule 41 = .ok (.ldc 251, 2) := by decide +kernel
theorem dX7_lastTurnByRule_43 : decode cX7_lastTurnByRule 43 = .ok (.iload_n 1, 1) := by decide +kernel
theorem dX7_lastTurnByRule_44 : decode cX7_lastTurnByRule 44 = .ok (.imul, 1) := by decide +kernel
theorem dX7_lastTurnByRule_45 : decode cX7_lastTurnByRule 45 = .ok (.if_icmp .ge 8, 3) := by decide +kernel
theorem dX7_lastTurnByRule_48 : decode cX7_lastTurnByRule 48 = .ok (.bipush 9, 2) := by decide +kernel
theorem dX7_lastTurnByRule_50 : decode cX7_lastTurnByRule 50 = .ok (.goto 4, 3) := by decide +kernel
theorem dX7_lastTurnByRule_53 : decode cX7_lastTurnByRule 53 = .ok (.iconst 0, 1) := by decide +kernel
theorem dX7_lastTurnByRule_54 : decode cX7_lastTurnByRule 54 = .ok (.istore 6, 2) := by decide +kernel
theorem dX7_lastTurnByRule_56 : decode cX7_lastTurnByRule 56 = .ok (.aload_n 0, 1) := by decide +kernel
theorem dX7_lastTurnByRule_57 : decode cX7_lastTurnByRule 57 = .ok (.aload_n 0, 1) := by decide +kernel
theorem dX7_lastTurnByRule_58 : decode cX7_lastTurnByRule 58 = .ok (.getfield 47, 3) := by decide +kernel
theorem dX7_lastTurnByRule_61 : decode cX7_lastTurnByRule 61 = .ok (.iload 6, 2) := by decide +kernel
theorem dX7_lastTurnByRule_63 : decode cX7_lastTurnByRule 63 = .ok (.iconst 0, 1) := by decide +kernel
theorem dX7_lastTurnByRule_64 : decode cX7_lastTurnByRule 64 = .ok (.invokevirtual 213, 3) := by decide +kernel
theorem dX7_lastTurnByRule_67 : decode cX7_lastTurnByRule 67 = .ok (.ifCond .eq 12, 3) := by decide +kernel
theorem dX7_lastTurnByRule_70 : decode cX7_lastTurnByRule 70 = .ok (.aload_n 0, 1) := by decide +kernel
theorem dX7_lastTurnByRule_71 : decode cX7_lastTurnByRule 71 = .ok (.getfield 47, 3) := by decide +kernel
theorem dX7_lastTurnByRule_74 : decode cX7_lastTurnByRule 74 = .ok (.getfield 151, 3) := by decide +kernel
theorem dX7_lastTurnByRule_77 : decode cX7_lastTurnByRule 77 = .ok (.istore 4, 2) := by decide +kernel
theorem dX7_lastTurnByRule_79 : decode cX7_lastTurnByRule 79 = .ok (.iinc 5 1, 3) := by decide +kernel
theorem dX7_lastTurnByRule_82 : decode cX7_lastTurnByRule 82 = .ok (.goto (-54), 3) := by decide +kernel
theorem dX7_lastTurnByRule_85 : decode cX7_lastTurnByRule 85 = .ok (.iload 4, 2) := by decide +kernel
theorem dX7_lastTurnByRule_87 : decode cX7_lastTurnByRule 87 = .ok (.ireturn, 1) := by decide +kernel
theorem dX8_init_0 : decode cX8_init 0 = .ok (.aload_n 0, 1) := by decide +kernel
theorem dX8_init_1 : decode cX8_init 1 = .ok (.invokespecial 1, 3) := by decide +kernel
theorem dX8_init_4 : decode cX8_init 4 = .ok (.aload_n 0, 1) := by decide +kernel
theorem dX8_init_5 : decode cX8_init 5 = .ok (.sipush 139, 3) := by decide +kernel
theorem dX8_init_8 : decode cX8_init 8 = .ok (.newarray .long, 2) := by decide +kernel
theorem dX8_init_10 : decode cX8_init 10 = .ok (.putfield 7, 3) := by decide +kernel
theorem dX8_init_13 : decode cX8_init 13 = .ok (.aload_n 0, 1) := by decide +kernel
theorem dX8_init_14 : decode cX8_init 14 = .ok (.sipush 278, 3) := by decide +kernel
theorem dX8_init_17 : decode cX8_init 17 = .ok (.newarray .long, 2) := by decide +kernel
theorem dX8_init_19 : decode cX8_init 19 = .ok (.putfield 13, 3) := by decide +kernel
theorem dX8_init_22 : decode cX8_init 22 = .ok (.aload_n 0, 1) := by decide +kernel
theorem dX8_init_23 : decode cX8_init 23 = .ok (.iconst 2, 1) := by decide +kernel
theorem dX8_init_24 : decode cX8_init 24 = .ok (.newarray .boolean, 2) := by decide +kernel
theorem dX8_init_26 : decode cX8_init 26 = .ok (.putfield 16, 3) := by decide +kernel
theorem dX8_init_29 : decode cX8_init 29 = .ok (.aload_n 0, 1) := by decide +kernel
theorem dX8_init_30 : decode cX8_init 30 = .ok (.iconst 3, 1) := by decide +kernel
theorem dX8_init_31 : decode cX8_init 31 = .ok (.newarray .int, 2) := by decide +kernel
theorem dX8_init_33 : decode cX8_init 33 = .ok (.putfield 20, 3) := by decide +kernel
theorem dX8_init_36 : decode cX8_init 36 = .ok (.aload_n 0, 1) := by decide +kernel
theorem dX8_init_37 : decode cX8_init 37 = .ok (.bipush 64, 2) := by decide +kernel
theorem dX8_init_39 : decode cX8_init 39 = .ok (.newarray .long, 2) := by decide +kernel
theorem dX8_init_41 : decode cX8_init 41 = .ok (.putfield 24, 3) := by decide +kernel
theorem dX8_init_44 : decode cX8_init 44 = .ok (.aload_n 0, 1) := by decide +kernel
theorem dX8_init_45 : decode cX8_init 45 = .ok (.sipush 128, 3) := by decide +kernel
theorem dX8_init_48 : decode cX8_init 48 = .ok (.newarray .int, 2) := by decide +kernel
theorem dX8_init_50 : decode cX8_init 50 = .ok (.putfield 27, 3) := by decide +kernel
theorem dX8_init_53 : decode cX8_init 53 = .ok (.aload_n 0, 1) := by decide +kernel
theorem dX8_init_54 : decode cX8_init 54 = .ok (.ldc2_w 30, 3) := by decide +kernel
theorem dX8_init_57 : decode cX8_init 57 = .ok (.putfield 32, 3) := by decide +kernel
theorem dX8_init_60 : decode cX8_init 60 = .ok (.aload_n 0, 1) := by decide +kernel
theorem dX8_init_61 : decode cX8_init 61 = .ok (.bipush 53, 2) := by decide +kernel
theorem dX8_init_63 : decode cX8_init 63 = .ok (.newarray .long, 2) := by decide +kernel
theorem dX8_init_65 : decode cX8_init 65 = .ok (.putfield 36, 3) := by decide +kernel
theorem dX8_init_68 : decode cX8_init 68 = .ok (.aload_n 0, 1) := by decide +kernel
theorem dX8_init_69 : decode cX8_init 69 = .ok (.getfield 7, 3) := by decide +kernel
theorem dX8_init_72 : decode cX8_init 72 = .ok (.bipush 53, 2) := by decide +kernel
theorem dX8_init_74 : decode cX8_init 74 = .ok (.ldc2_w 39, 3) := by decide +kernel
theorem dX8_init_77 : decode cX8_init 77 = .ok (.lastore, 1) := by decide +kernel
theorem dX8_init_78 : decode cX8_init 78 = .ok (.aload_n 0, 1) := by decide +kernel
theorem dX8_init_79 : decode cX8_init 79 = .ok (.getfield 7, 3) := by decide +kernel
theorem dX8_init_82 : decode cX8_init 82 = .ok (.bipush 54, 2) := by decide +kernel
theorem dX8_init_84 : decode cX8_init 84 = .ok (.ldc2_w 41, 3) := by decide +kernel
theorem dX8_init_87 : decode cX8_init 87 = .ok (.lastore, 1) := by decide +kernel
theorem dX8_init_88 : decode cX8_init 88 = .ok (.aload_n 0, 1) := by decide +kernel
theorem dX8_init_89 : decode cX8_init 89 = .ok (.getfield 7, 3) := by decide +kernel
theorem dX8_init_92 : decode cX8_init 92 = .ok (.bipush 55, 2) := by decide +kernel
theorem dX8_init_94 : decode cX8_init 94 = .ok (.lconst 1, 1) := by decide +kernel
theorem dX8_init_95 : decode cX8_init 95 = .ok (.lastore, 1) := by decide +kernel
theorem dX8_init_96 : decode cX8_init 96 = .ok (.aload_n 0, 1) := by decide +kernel
theorem dX8_init_97 : decode cX8_init 97 = .ok (.getfield 7, 3) := by decide +kernel
theorem dX8_init_100 : decode cX8_init 100 = .ok (.bipush 56, 2) := by decide +kernel
theorem dX8_init_102 : decode cX8_init 102 = .ok (.ldc2_w 41, 3) := by decide +kernel
theorem dX8_init_105 : decode cX8_init 105 = .ok (.lastore, 1) := by decide +kernel
theorem dX8_init_106 : decode cX8_init 106 = .ok (.aload_n 0, 1) := by decide +kernel
theorem dX8_init_107 : decode cX8_init 107 = .ok (.getfield 7, 3) := by decide +kernel
theorem dX8_init_110 : decode cX8_init 110 = .ok (.bipush 57, 2) := by decide +kernel
theorem dX8_init_112 : decode cX8_init 112 = .ok (.ldc2_w 43, 3) := by decide +kernel
theorem dX8_init_115 : decode cX8_init 115 = .ok (.lastore, 1) := by decide +kernel
theorem dX8_init_116 : decode cX8_init 116 = .ok (.aload_n 0, 1) := by decide +kernel
theorem dX8_init_117 : decode cX8_init 117 = .ok (.getfield 7, 3) := by decide +kernel
theorem dX8_init_120 : decode cX8_init 120 = .ok (.bipush 60, 2) := by decide +kernel
theorem dX8_init_122 : decode cX8_init 122 = .ok (.ldc2_w 39, 3) := by decide +kernel
theorem dX8_init_125 : decode cX8_init 125 = .ok (.lastore, 1) := by decide +kernel
theorem dX8_init_126 : decode cX8_init 126 = .ok (.return_, 1) := by decide +kernel
theorem dX8_in_0 : decode cX8_in 0 = .ok (.lload_n 0, 1) := by decide +kernel
theorem dX8_in_1 : decode cX8_in 1 = .ok (.lload_n 2, 1) := by decide +kernel
theorem dX8_in_2 : decode cX8_in 2 = .ok (.lcmp, 1) := by decide +kernel
theorem dX8_in_3 : decode cX8_in 3 = .ok (.ifCond .lt 14, 3) := by decide +kernel
theorem dX8_in_6 : decode cX8_in 6 = .ok (.lload_n 0, 1) := by decide +kernel
theorem dX8_in_7 : decode cX8_in 7 = .ok (.lload 4, 2) := by decide +kernel
theorem dX8_in_9 : decode cX8_in 9 = .ok (.lcmp, 1) := by decide +kernel
theorem dX8_in_10 : decode cX8_in 10 = .ok (.ifCond .gt 7, 3) := by decide +kernel
theorem dX8_in_13 : decode cX8_in 13 = .ok (.iconst 1, 1) := by decide +kernel
theorem dX8_in_14 : decode cX8_in 14 = .ok (.goto 4, 3) := by decide +kernel
theorem dX8_in_17 : decode cX8_in 17 = .ok (.iconst 0, 1) := by decide +kernel
theorem dX8_in_18 : decode cX8_in 18 = .ok (.ireturn, 1) := by decide +kernel
theorem dX8_bad_0 : decode cX8_bad 0 = .ok (.aload_n 0, 1) := by decide +kernel
theorem dX8_bad_1 : decode cX8_bad 1 = .ok (.getfield 20, 3) := by decide +kernel
theorem dX8_bad_4 : decode cX8_bad 4 = .ok (.iconst 0, 1) := by decide +kernel
theorem dX8_bad_5 : decode cX8_bad 5 = .ok (.dup2, 1) := by decide +kernel
theorem dX8_bad_6 : decode cX8_bad 6 = .ok (.iaload, 1) := by decide +kernel
theorem dX8_bad_7 : decode cX8_bad 7 = .ok (.iconst 1, 1) := by decide +kernel
theorem dX8_bad_8 : decode cX8_bad 8 = .ok (.iadd, 1) := by decide +kernel
theorem dX8_bad_9 : decode cX8_bad 9 = .ok (.iastore, 1) := by decide +kernel
theorem dX8_bad_10 : decode cX8_bad 10 = .ok (.iload_n 1, 1) := by decide +kernel
theorem dX8_bad_11 : decode cX8_bad 11 = .ok (.ireturn, 1) := by decide +kernel
theorem dX8_of_0 : decode cX8_of 0 = .ok (.aload_n 0, 1) := by decide +kernel
theorem dX8_of_1 : decode cX8_of 1 = .ok (.getfield 7, 3) := by decide +kernel
theorem dX8_of_4 : decode cX8_of 4 = .ok (.bipush 53, 2) := by decide +kernel
theorem dX8_of_6 : decode cX8_of 6 = .ok (.iload_n 1, 1) := by decide +kernel
theorem dX8_of_7 : decode cX8_of 7 = .ok (.iadd, 1) := by decide +kernel
theorem dX8_of_8 : decode cX8_of 8 = .ok (.laload, 1) := by decide +kernel
theorem dX8_of_9 : decode cX8_of 9 = .ok (.lreturn, 1) := by decide +kernel
theorem dX8_fitsNumber_0 : decode cX8_fitsNumber 0 = .ok (.iload_n 0, 1) := by decide +kernel
theorem dX8_fitsNumber_1 : decode cX8_fitsNumber 1 = .ok (.tableswitch 101 0 7 #[47, 59, 69, 79, 59, 89, 69, 47], 47) := by decide +kernel
theorem dX8_fitsNumber_48 : decode cX8_fitsNumber 48 = .ok (.iload_n 1, 1) := by decide +kernel
theorem dX8_fitsNumber_49 : decode cX8_fitsNumber 49 = .ok (.i2l, 1) := by decide +kernel
theorem dX8_fitsNumber_50 : decode cX8_fitsNumber 50 = .ok (.ldc2_w 45, 3) := by decide +kernel
theorem dX8_fitsNumber_53 : decode cX8_fitsNumber 53 = .ok (.ldc2_w 47, 3) := by decide +kernel
theorem dX8_fitsNumber_56 : decode cX8_fitsNumber 56 = .ok (.invokestatic 49, 3) := by decide +kernel
theorem dX8_fitsNumber_59 : decode cX8_fitsNumber 59 = .ok (.ireturn, 1) := by decide +kernel
theorem dX8_fitsNumber_60 : decode cX8_fitsNumber 60 = .ok (.iload_n 1, 1) := by decide +kernel
theorem dX8_fitsNumber_61 : decode cX8_fitsNumber 61 = .ok (.i2l, 1) := by decide +kernel
theorem dX8_fitsNumber_62 : decode cX8_fitsNumber 62 = .ok (.lconst 1, 1) := by decide +kernel
theorem dX8_fitsNumber_63 : decode cX8_fitsNumber 63 = .ok (.ldc2_w 53, 3) := by decide +kernel
theorem dX8_fitsNumber_66 : decode cX8_fitsNumber 66 = .ok (.invokestatic 49, 3) := by decide +kernel
theorem dX8_fitsNumber_69 : decode cX8_fitsNumber 69 = .ok (.ireturn, 1) := by decide +kernel
theorem dX8_fitsNumber_70 : decode cX8_fitsNumber 70 = .ok (.iload_n 1, 1) := by decide +kernel
theorem dX8_fitsNumber_71 : decode cX8_fitsNumber 71 = .ok (.i2l, 1) := by decide +kernel
theorem dX8_fitsNumber_72 : decode cX8_fitsNumber 72 = .ok (.lconst 0, 1) := by decide +kernel
theorem dX8_fitsNumber_73 : decode cX8_fitsNumber 73 = .ok (.ldc2_w 45, 3) := by decide +kernel
theorem dX8_fitsNumber_76 : decode cX8_fitsNumber 76 = .ok (.invokestatic 49, 3) := by decide +kernel
theorem dX8_fitsNumber_79 : decode cX8_fitsNumber 79 = .ok (.ireturn, 1) := by decide +kernel
theorem dX8_fitsNumber_80 : decode cX8_fitsNumber 80 = .ok (.iload_n 1, 1) := by decide +kernel
theorem dX8_fitsNumber_81 : decode cX8_fitsNumber 81 = .ok (.i2l, 1) := by decide +kernel
theorem dX8_fitsNumber_82 : decode cX8_fitsNumber 82 = .ok (.lconst 0, 1) := by decide +kernel
theorem dX8_fitsNumber_83 : decode cX8_fitsNumber 83 = .ok (.ldc2_w 55, 3) := by decide +kernel
theorem dX8_fitsNumber_86 : decode cX8_fitsNumber 86 = .ok (.invokestatic 49, 3) := by decide +kernel
theorem dX8_fitsNumber_89 : decode cX8_fitsNumber 89 = .ok (.ireturn, 1) := by decide +kernel
theorem dX8_fitsNumber_90 : decode cX8_fitsNumber 90 = .ok (.iload_n 1, 1) := by decide +kernel
theorem dX8_fitsNumber_91 : decode cX8_fitsNumber 91 = .ok (.i2l, 1) := by decide +kernel
theorem dX8_fitsNumber_92 : decode cX8_fitsNumber 92 = .ok (.ldc2_w 57, 3) := by decide +kernel
theorem dX8_fitsNumber_95 : decode cX8_fitsNumber 95 = .ok (.ldc2_w 59, 3) := by decide +kernel
theorem dX8_fitsNumber_98 : decode cX8_fitsNumber 98 = .ok (.invokestatic 49, 3) := by decide +kernel
theorem dX8_fitsNumber_101 : decode cX8_fitsNumber 101 = .ok (.ireturn, 1) := by decide +kernel
theorem dX8_fitsNumber_102 : decode cX8_fitsNumber 102 = .ok (.iconst 0, 1) := by decide +kernel
theorem dX8_fitsNumber_103 : decode cX8_fitsNumber 103 = .ok (.ireturn, 1) := by decide +kernel
theorem dX8_put_0 : decode cX8_put 0 = .ok (.iload_n 1, 1) := by decide +kernel
theorem dX8_put_1 : decode cX8_put 1 = .ok (.iload_n 2, 1) := by decide +kernel
theorem dX8_put_2 : decode cX8_put 2 = .ok (.invokestatic 61, 3) := by decide +kernel
theorem dX8_put_5 : decode cX8_put 5 = .ok (.ifCond .ne 10, 3) := by decide +kernel
theorem dX8_put_8 : decode cX8_put 8 = .ok (.aload_n 0, 1) := by decide +kernel
theorem dX8_put_9 : decode cX8_put 9 = .ok (.bipush (-100), 2) := by decide +kernel
theorem dX8_put_11 : decode cX8_put 11 = .ok (.invokevirtual 65, 3) := by decide +kernel
theorem dX8_put_14 : decode cX8_put 14 = .ok (.ireturn, 1) := by decide +kernel
theorem dX8_put_15 : decode cX8_put 15 = .ok (.aload_n 0, 1) := by decide +kernel
theorem dX8_put_16 : decode cX8_put 16 = .ok (.iload_n 1, 1) := by decide +kernel
theorem dX8_put_17 : decode cX8_put 17 = .ok (.invokevirtual 69, 3) := by decide +kernel
theorem dX8_put_20 : decode cX8_put 20 = .ok (.l2i, 1) := by decide +kernel
theorem dX8_put_21 : decode cX8_put 21 = .ok (.istore_n 3, 1) := by decide +kernel
theorem dX8_put_22 : decode cX8_put 22 = .ok (.aload_n 0, 1) := by decide +kernel
theorem dX8_put_23 : decode cX8_put 23 = .ok (.getfield 7, 3) := by decide +kernel
theorem dX8_put_26 : decode cX8_put 26 = .ok (.bipush 53, 2) := by decide +kernel
theorem dX8_put_28 : decode cX8_put 28 = .ok (.iload_n 1, 1) := by decide +kernel
theorem dX8_put_29 : decode cX8_put 29 = .ok (.iadd, 1) := by decide +kernel
theorem dX8_put_30 : decode cX8_put 30 = .ok (.iload_n 2, 1) := by decide +kernel
theorem dX8_put_31 : decode cX8_put 31 = .ok (.i2l, 1) := by decide +kernel
theorem dX8_put_32 : decode cX8_put 32 = .ok (.lastore, 1) := by decide +kernel
theorem dX8_put_33 : decode cX8_put 33 = .ok (.iload_n 3, 1) := by decide +kernel
theorem dX8_put_34 : decode cX8_put 34 = .ok (.ireturn, 1) := by decide +kernel
theorem dX8_lawLong_0 : decode cX8_lawLong 0 = .ok (.aload_n 0, 1) := by decide +kernel
theorem dX8_lawLong_1 : decode cX8_lawLong 1 = .ok (.getfield 7, 3) := by decide +kernel
theorem dX8_lawLong_4 : decode cX8_lawLong 4 = .ok (.bipush 61, 2) := by decide +kernel
theorem dX8_lawLong_6 : decode cX8_lawLong 6 = .ok (.laload, 1) := by decide +kernel
theorem dX8_lawLong_7 : decode cX8_lawLong 7 = .ok (.l2i, 1) := by decide +kernel
theorem dX8_lawLong_8 : decode cX8_lawLong 8 = .ok (.ireturn, 1) := by decide +kernel
theorem dX8_charAt_0 : decode cX8_charAt 0 = .ok (.aload_n 0, 1) := by decide +kernel
theorem dX8_charAt_1 : decode cX8_charAt 1 = .ok (.getfield 7, 3) := by decide +kernel
theorem dX8_charAt_4 : decode cX8_charAt 4 = .ok (.bipush 62, 2) := by decide +kernel
theorem dX8_charAt_6 : decode cX8_charAt 6 = .ok (.iload_n 1, 1) := by decide +kernel
theorem dX8_charAt_7 : decode cX8_charAt 7 = .ok (.iadd, 1) := by decide +kernel
theorem dX8_charAt_8 : decode cX8_charAt 8 = .ok (.laload, 1) := by decide +kernel
theorem dX8_charAt_9 : decode cX8_charAt 9 = .ok (.l2i, 1) := by decide +kernel
theorem dX8_charAt_10 : decode cX8_charAt 10 = .ok (.ireturn, 1) := by decide +kernel
theorem dX8_write_0 : decode cX8_write 0 = .ok (.iload_n 1, 1) := by decide +kernel
theorem dX8_write_1 : decode cX8_write 1 = .ok (.i2l, 1) := by decide +kernel
theorem dX8_write_2 : decode cX8_write 2 = .ok (.lconst 0, 1) := by decide +kernel
theorem dX8_write_3 : decode cX8_write 3 = .ok (.ldc2_w 73, 3) := by decide +kernel
theorem dX8_write_6 : decode cX8_write 6 = .ok (.invokestatic 49, 3) := by decide +kernel
theorem dX8_write_9 : decode cX8_write 9 = .ok (.ifCond .ne 10, 3) := by decide +kernel
theorem dX8_write_12 : decode cX8_write 12 = .ok (.aload_n 0, 1) := by decide +kernel
theorem dX8_write_13 : decode cX8_write 13 = .ok (.bipush (-2), 2) := by decide +kernel
theorem dX8_write_15 : decode cX8_write 15 = .ok (.invokevirtual 65, 3) := by decide +kernel
theorem dX8_write_18 : decode cX8_write 18 = .ok (.ireturn, 1) := by decide +kernel
theorem dX8_write_19 : decode cX8_write 19 = .ok (.aload_n 0, 1) := by decide +kernel
theorem dX8_write_20 : decode cX8_write 20 = .ok (.invokevirtual 75, 3) := by decide +kernel
theorem dX8_write_23 : decode cX8_write 23 = .ok (.bipush 60, 2) := by decide +kernel
theorem dX8_write_25 : decode cX8_write 25 = .ok (.if_icmp .ne 16, 3) := by decide +kernel
theorem dX8_write_28 : decode cX8_write 28 = .ok (.aload_n 0, 1) := by decide +kernel
theorem dX8_write_29 : decode cX8_write 29 = .ok (.getfield 20, 3) := by decide +kernel
theorem dX8_write_32 : decode cX8_write 32 = .ok (.iconst 2, 1) := by decide +kernel
theorem dX8_write_33 : decode cX8_write 33 = .ok (.dup2, 1) := by decide +kernel
theorem dX8_write_34 : decode cX8_write 34 = .ok (.iaload, 1) := by decide +kernel
theorem dX8_write_35 : decode cX8_write 35 = .ok (.iconst 1, 1) := by decide +kernel
theorem dX8_write_36 : decode cX8_write 36 = .ok (.iadd, 1) := by decide +kernel
theorem dX8_write_37 : decode cX8_write 37 = .ok (.iastore, 1) := by decide +kernel
theorem dX8_write_38 : decode cX8_write 38 = .ok (.bipush (-4), 2) := by decide +kernel
