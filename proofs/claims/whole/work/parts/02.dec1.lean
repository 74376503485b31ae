theorem dX0_init_0 : decode cX0_init 0 = .ok (.aload_n 0, 1) := by decide +kernel
theorem dX0_init_1 : decode cX0_init 1 = .ok (.iconst 1, 1) := by decide +kernel
theorem dX0_init_2 : decode cX0_init 2 = .ok (.invokespecial 1, 3) := by decide +kernel
theorem dX0_init_5 : decode cX0_init 5 = .ok (.aload_n 0, 1) := by decide +kernel
theorem dX0_init_6 : decode cX0_init 6 = .ok (.iload_n 1, 1) := by decide +kernel
theorem dX0_init_7 : decode cX0_init 7 = .ok (.putfield 7, 3) := by decide +kernel
theorem dX0_init_10 : decode cX0_init 10 = .ok (.aload_n 0, 1) := by decide +kernel
theorem dX0_init_11 : decode cX0_init 11 = .ok (.iload_n 2, 1) := by decide +kernel
theorem dX0_init_12 : decode cX0_init 12 = .ok (.putfield 13, 3) := by decide +kernel
theorem dX0_init_15 : decode cX0_init 15 = .ok (.aload_n 0, 1) := by decide +kernel
theorem dX0_init_16 : decode cX0_init 16 = .ok (.iload_n 3, 1) := by decide +kernel
theorem dX0_init_17 : decode cX0_init 17 = .ok (.putfield 16, 3) := by decide +kernel
theorem dX0_init_20 : decode cX0_init 20 = .ok (.aload_n 0, 1) := by decide +kernel
theorem dX0_init_21 : decode cX0_init 21 = .ok (.iload 4, 2) := by decide +kernel
theorem dX0_init_23 : decode cX0_init 23 = .ok (.putfield 19, 3) := by decide +kernel
theorem dX0_init_26 : decode cX0_init 26 = .ok (.return_, 1) := by decide +kernel
theorem dX0_lookFrom_0 : decode cX0_lookFrom 0 = .ok (.aload_n 0, 1) := by decide +kernel
theorem dX0_lookFrom_1 : decode cX0_lookFrom 1 = .ok (.getfield 19, 3) := by decide +kernel
theorem dX0_lookFrom_4 : decode cX0_lookFrom 4 = .ok (.i2l, 1) := by decide +kernel
theorem dX0_lookFrom_5 : decode cX0_lookFrom 5 = .ok (.invokestatic 22, 3) := by decide +kernel
theorem dX0_lookFrom_8 : decode cX0_lookFrom 8 = .ok (.iload_n 1, 1) := by decide +kernel
theorem dX0_lookFrom_9 : decode cX0_lookFrom 9 = .ok (.aload_n 0, 1) := by decide +kernel
theorem dX0_lookFrom_10 : decode cX0_lookFrom 10 = .ok (.getfield 7, 3) := by decide +kernel
theorem dX0_lookFrom_13 : decode cX0_lookFrom 13 = .ok (.isub, 1) := by decide +kernel
theorem dX0_lookFrom_14 : decode cX0_lookFrom 14 = .ok (.i2l, 1) := by decide +kernel
theorem dX0_lookFrom_15 : decode cX0_lookFrom 15 = .ok (.invokestatic 22, 3) := by decide +kernel
theorem dX0_lookFrom_18 : decode cX0_lookFrom 18 = .ok (.lsub, 1) := by decide +kernel
theorem dX0_lookFrom_19 : decode cX0_lookFrom 19 = .ok (.iload_n 2, 1) := by decide +kernel
theorem dX0_lookFrom_20 : decode cX0_lookFrom 20 = .ok (.aload_n 0, 1) := by decide +kernel
theorem dX0_lookFrom_21 : decode cX0_lookFrom 21 = .ok (.getfield 13, 3) := by decide +kernel
theorem dX0_lookFrom_24 : decode cX0_lookFrom 24 = .ok (.isub, 1) := by decide +kernel
theorem dX0_lookFrom_25 : decode cX0_lookFrom 25 = .ok (.i2l, 1) := by decide +kernel
theorem dX0_lookFrom_26 : decode cX0_lookFrom 26 = .ok (.invokestatic 22, 3) := by decide +kernel
theorem dX0_lookFrom_29 : decode cX0_lookFrom 29 = .ok (.lsub, 1) := by decide +kernel
theorem dX0_lookFrom_30 : decode cX0_lookFrom 30 = .ok (.lstore 5, 2) := by decide +kernel
theorem dX0_lookFrom_32 : decode cX0_lookFrom 32 = .ok (.lload 5, 2) := by decide +kernel
theorem dX0_lookFrom_34 : decode cX0_lookFrom 34 = .ok (.lconst 0, 1) := by decide +kernel
theorem dX0_lookFrom_35 : decode cX0_lookFrom 35 = .ok (.lcmp, 1) := by decide +kernel
theorem dX0_lookFrom_36 : decode cX0_lookFrom 36 = .ok (.ifCond .ge 11, 3) := by decide +kernel
theorem dX0_lookFrom_39 : decode cX0_lookFrom 39 = .ok (.aload 4, 2) := by decide +kernel
theorem dX0_lookFrom_41 : decode cX0_lookFrom 41 = .ok (.invokevirtual 28, 3) := by decide +kernel
theorem dX0_lookFrom_44 : decode cX0_lookFrom 44 = .ok (.goto 39, 3) := by decide +kernel
theorem dX0_lookFrom_47 : decode cX0_lookFrom 47 = .ok (.lload 5, 2) := by decide +kernel
theorem dX0_lookFrom_49 : decode cX0_lookFrom 49 = .ok (.aload_n 0, 1) := by decide +kernel
theorem dX0_lookFrom_50 : decode cX0_lookFrom 50 = .ok (.getfield 19, 3) := by decide +kernel
theorem dX0_lookFrom_53 : decode cX0_lookFrom 53 = .ok (.invokestatic 34, 3) := by decide +kernel
theorem dX0_lookFrom_56 : decode cX0_lookFrom 56 = .ok (.istore 7, 2) := by decide +kernel
theorem dX0_lookFrom_58 : decode cX0_lookFrom 58 = .ok (.aload 4, 2) := by decide +kernel
theorem dX0_lookFrom_60 : decode cX0_lookFrom 60 = .ok (.aload_n 0, 1) := by decide +kernel
theorem dX0_lookFrom_61 : decode cX0_lookFrom 61 = .ok (.getfield 16, 3) := by decide +kernel
theorem dX0_lookFrom_64 : decode cX0_lookFrom 64 = .ok (.iload 7, 2) := by decide +kernel
theorem dX0_lookFrom_66 : decode cX0_lookFrom 66 = .ok (.isub, 1) := by decide +kernel
theorem dX0_lookFrom_67 : decode cX0_lookFrom 67 = .ok (.iload_n 3, 1) := by decide +kernel
theorem dX0_lookFrom_68 : decode cX0_lookFrom 68 = .ok (.iadd, 1) := by decide +kernel
theorem dX0_lookFrom_69 : decode cX0_lookFrom 69 = .ok (.aload_n 0, 1) := by decide +kernel
theorem dX0_lookFrom_70 : decode cX0_lookFrom 70 = .ok (.getfield 16, 3) := by decide +kernel
theorem dX0_lookFrom_73 : decode cX0_lookFrom 73 = .ok (.iload 7, 2) := by decide +kernel
theorem dX0_lookFrom_75 : decode cX0_lookFrom 75 = .ok (.iadd, 1) := by decide +kernel
theorem dX0_lookFrom_76 : decode cX0_lookFrom 76 = .ok (.iconst 1, 1) := by decide +kernel
theorem dX0_lookFrom_77 : decode cX0_lookFrom 77 = .ok (.iadd, 1) := by decide +kernel
theorem dX0_lookFrom_78 : decode cX0_lookFrom 78 = .ok (.iload_n 3, 1) := by decide +kernel
theorem dX0_lookFrom_79 : decode cX0_lookFrom 79 = .ok (.iadd, 1) := by decide +kernel
theorem dX0_lookFrom_80 : decode cX0_lookFrom 80 = .ok (.invokevirtual 38, 3) := by decide +kernel
theorem dX0_lookFrom_83 : decode cX0_lookFrom 83 = .ok (.return_, 1) := by decide +kernel
theorem dX1_init_0 : decode cX1_init 0 = .ok (.aload_n 0, 1) := by decide +kernel
theorem dX1_init_1 : decode cX1_init 1 = .ok (.iconst 1, 1) := by decide +kernel
theorem dX1_init_2 : decode cX1_init 2 = .ok (.invokespecial 1, 3) := by decide +kernel
theorem dX1_init_5 : decode cX1_init 5 = .ok (.aload_n 0, 1) := by decide +kernel
theorem dX1_init_6 : decode cX1_init 6 = .ok (.iload_n 1, 1) := by decide +kernel
theorem dX1_init_7 : decode cX1_init 7 = .ok (.putfield 7, 3) := by decide +kernel
theorem dX1_init_10 : decode cX1_init 10 = .ok (.aload_n 0, 1) := by decide +kernel
theorem dX1_init_11 : decode cX1_init 11 = .ok (.iload_n 2, 1) := by decide +kernel
theorem dX1_init_12 : decode cX1_init 12 = .ok (.putfield 13, 3) := by decide +kernel
theorem dX1_init_15 : decode cX1_init 15 = .ok (.aload_n 0, 1) := by decide +kernel
theorem dX1_init_16 : decode cX1_init 16 = .ok (.iload_n 3, 1) := by decide +kernel
theorem dX1_init_17 : decode cX1_init 17 = .ok (.putfield 16, 3) := by decide +kernel
theorem dX1_init_20 : decode cX1_init 20 = .ok (.aload_n 0, 1) := by decide +kernel
theorem dX1_init_21 : decode cX1_init 21 = .ok (.iload 4, 2) := by decide +kernel
theorem dX1_init_23 : decode cX1_init 23 = .ok (.putfield 19, 3) := by decide +kernel
theorem dX1_init_26 : decode cX1_init 26 = .ok (.aload_n 0, 1) := by decide +kernel
theorem dX1_init_27 : decode cX1_init 27 = .ok (.iload 5, 2) := by decide +kernel
theorem dX1_init_29 : decode cX1_init 29 = .ok (.putfield 22, 3) := by decide +kernel
theorem dX1_init_32 : decode cX1_init 32 = .ok (.aload_n 0, 1) := by decide +kernel
theorem dX1_init_33 : decode cX1_init 33 = .ok (.iload 6, 2) := by decide +kernel
theorem dX1_init_35 : decode cX1_init 35 = .ok (.putfield 25, 3) := by decide +kernel
theorem dX1_init_38 : decode cX1_init 38 = .ok (.return_, 1) := by decide +kernel
theorem dX1_lookFrom_0 : decode cX1_lookFrom 0 = .ok (.aload_n 0, 1) := by decide +kernel
theorem dX1_lookFrom_1 : decode cX1_lookFrom 1 = .ok (.getfield 7, 3) := by decide +kernel
theorem dX1_lookFrom_4 : decode cX1_lookFrom 4 = .ok (.iload_n 1, 1) := by decide +kernel
theorem dX1_lookFrom_5 : decode cX1_lookFrom 5 = .ok (.if_icmp .gt 47, 3) := by decide +kernel
theorem dX1_lookFrom_8 : decode cX1_lookFrom 8 = .ok (.iload_n 1, 1) := by decide +kernel
theorem dX1_lookFrom_9 : decode cX1_lookFrom 9 = .ok (.aload_n 0, 1) := by decide +kernel
theorem dX1_lookFrom_10 : decode cX1_lookFrom 10 = .ok (.getfield 19, 3) := by decide +kernel
theorem dX1_lookFrom_13 : decode cX1_lookFrom 13 = .ok (.if_icmp .ge 39, 3) := by decide +kernel
theorem dX1_lookFrom_16 : decode cX1_lookFrom 16 = .ok (.aload_n 0, 1) := by decide +kernel
theorem dX1_lookFrom_17 : decode cX1_lookFrom 17 = .ok (.getfield 13, 3) := by decide +kernel
theorem dX1_lookFrom_20 : decode cX1_lookFrom 20 = .ok (.iload_n 2, 1) := by decide +kernel
theorem dX1_lookFrom_21 : decode cX1_lookFrom 21 = .ok (.if_icmp .gt 31, 3) := by decide +kernel
theorem dX1_lookFrom_24 : decode cX1_lookFrom 24 = .ok (.iload_n 2, 1) := by decide +kernel
theorem dX1_lookFrom_25 : decode cX1_lookFrom 25 = .ok (.aload_n 0, 1) := by decide +kernel
theorem dX1_lookFrom_26 : decode cX1_lookFrom 26 = .ok (.getfield 22, 3) := by decide +kernel
theorem dX1_lookFrom_29 : decode cX1_lookFrom 29 = .ok (.if_icmp .ge 23, 3) := by decide +kernel
theorem dX1_lookFrom_32 : decode cX1_lookFrom 32 = .ok (.aload 4, 2) := by decide +kernel
theorem dX1_lookFrom_34 : decode cX1_lookFrom 34 = .ok (.aload_n 0, 1) := by decide +kernel
theorem dX1_lookFrom_35 : decode cX1_lookFrom 35 = .ok (.getfield 16, 3) := by decide +kernel
theorem dX1_lookFrom_38 : decode cX1_lookFrom 38 = .ok (.iload_n 3, 1) := by decide +kernel
theorem dX1_lookFrom_39 : decode cX1_lookFrom 39 = .ok (.iadd, 1) := by decide +kernel
theorem dX1_lookFrom_40 : decode cX1_lookFrom 40 = .ok (.aload_n 0, 1) := by decide +kernel
theorem dX1_lookFrom_41 : decode cX1_lookFrom 41 = .ok (.getfield 25, 3) := by decide +kernel
theorem dX1_lookFrom_44 : decode cX1_lookFrom 44 = .ok (.iload_n 3, 1) := by decide +kernel
theorem dX1_lookFrom_45 : decode cX1_lookFrom 45 = .ok (.iadd, 1) := by decide +kernel
theorem dX1_lookFrom_46 : decode cX1_lookFrom 46 = .ok (.invokevirtual 28, 3) := by decide +kernel
theorem dX1_lookFrom_49 : decode cX1_lookFrom 49 = .ok (.goto 8, 3) := by decide +kernel
theorem dX1_lookFrom_52 : decode cX1_lookFrom 52 = .ok (.aload 4, 2) := by decide +kernel
theorem dX1_lookFrom_54 : decode cX1_lookFrom 54 = .ok (.invokevirtual 34, 3) := by decide +kernel
theorem dX1_lookFrom_57 : decode cX1_lookFrom 57 = .ok (.return_, 1) := by decide +kernel
theorem dX2_init_0 : decode cX2_init 0 = .ok (.aload_n 0, 1) := by decide +kernel
theorem dX2_init_1 : decode cX2_init 1 = .ok (.iconst 1, 1) := by decide +kernel
theorem dX2_init_2 : decode cX2_init 2 = .ok (.invokespecial 1, 3) := by decide +kernel
theorem dX2_init_5 : decode cX2_init 5 = .ok (.aload_n 0, 1) := by decide +kernel
theorem dX2_init_6 : decode cX2_init 6 = .ok (.iload_n 1, 1) := by decide +kernel
theorem dX2_init_7 : decode cX2_init 7 = .ok (.putfield 7, 3) := by decide +kernel
theorem dX2_init_10 : decode cX2_init 10 = .ok (.aload_n 0, 1) := by decide +kernel
theorem dX2_init_11 : decode cX2_init 11 = .ok (.iload_n 2, 1) := by decide +kernel
theorem dX2_init_12 : decode cX2_init 12 = .ok (.putfield 13, 3) := by decide +kernel
theorem dX2_init_15 : decode cX2_init 15 = .ok (.aload_n 0, 1) := by decide +kernel
theorem dX2_init_16 : decode cX2_init 16 = .ok (.iload_n 3, 1) := by decide +kernel
theorem dX2_init_17 : decode cX2_init 17 = .ok (.putfield 16, 3) := by decide +kernel
theorem dX2_init_20 : decode cX2_init 20 = .ok (.aload_n 0, 1) := by decide +kernel
theorem dX2_init_21 : decode cX2_init 21 = .ok (.iload 4, 2) := by decide +kernel
theorem dX2_init_23 : decode cX2_init 23 = .ok (.putfield 19, 3) := by decide +kernel
theorem dX2_init_26 : decode cX2_init 26 = .ok (.aload_n 0, 1) := by decide +kernel
theorem dX2_init_27 : decode cX2_init 27 = .ok (.iload 5, 2) := by decide +kernel
theorem dX2_init_29 : decode cX2_init 29 = .ok (.putfield 22, 3) := by decide +kernel
theorem dX2_init_32 : decode cX2_init 32 = .ok (.return_, 1) := by decide +kernel
theorem dX2_lookFrom_0 : decode cX2_lookFrom 0 = .ok (.iload_n 1, 1) := by decide +kernel
theorem dX2_lookFrom_1 : decode cX2_lookFrom 1 = .ok (.aload_n 0, 1) := by decide +kernel
theorem dX2_lookFrom_2 : decode cX2_lookFrom 2 = .ok (.getfield 7, 3) := by decide +kernel
theorem dX2_lookFrom_5 : decode cX2_lookFrom 5 = .ok (.isub, 1) := by decide +kernel
theorem dX2_lookFrom_6 : decode cX2_lookFrom 6 = .ok (.i2l, 1) := by decide +kernel
theorem dX2_lookFrom_7 : decode cX2_lookFrom 7 = .ok (.invokestatic 25, 3) := by decide +kernel
theorem dX2_lookFrom_10 : decode cX2_lookFrom 10 = .ok (.iload_n 2, 1) := by decide +kernel
theorem dX2_lookFrom_11 : decode cX2_lookFrom 11 = .ok (.aload_n 0, 1) := by decide +kernel
theorem dX2_lookFrom_12 : decode cX2_lookFrom 12 = .ok (.getfield 13, 3) := by decide +kernel
theorem dX2_lookFrom_15 : decode cX2_lookFrom 15 = .ok (.isub, 1) := by decide +kernel
theorem dX2_lookFrom_16 : decode cX2_lookFrom 16 = .ok (.i2l, 1) := by decide +kernel
theorem dX2_lookFrom_17 : decode cX2_lookFrom 17 = .ok (.invokestatic 25, 3) := by decide +kernel
theorem dX2_lookFrom_20 : decode cX2_lookFrom 20 = .ok (.ladd, 1) := by decide +kernel
theorem dX2_lookFrom_21 : decode cX2_lookFrom 21 = .ok (.lstore 5, 2) := by decide +kernel
theorem dX2_lookFrom_23 : decode cX2_lookFrom 23 = .ok (.aload_n 0, 1) := by decide +kernel
theorem dX2_lookFrom_24 : decode cX2_lookFrom 24 = .ok (.getfield 22, 3) := by decide +kernel
theorem dX2_lookFrom_27 : decode cX2_lookFrom 27 = .ok (.aload_n 0, 1) := by decide +kernel
theorem dX2_lookFrom_28 : decode cX2_lookFrom 28 = .ok (.getfield 19, 3) := by decide +kernel
theorem dX2_lookFrom_31 : decode cX2_lookFrom 31 = .ok (.if_icmp .le 17, 3) := by decide +kernel
theorem dX2_lookFrom_34 : decode cX2_lookFrom 34 = .ok (.lload 5, 2) := by decide +kernel
theorem dX2_lookFrom_36 : decode cX2_lookFrom 36 = .ok (.aload_n 0, 1) := by decide +kernel
theorem dX2_lookFrom_37 : decode cX2_lookFrom 37 = .ok (.getfield 16, 3) := by decide +kernel
theorem dX2_lookFrom_40 : decode cX2_lookFrom 40 = .ok (.i2l, 1) := by decide +kernel
theorem dX2_lookFrom_41 : decode cX2_lookFrom 41 = .ok (.invokestatic 25, 3) := by decide +kernel
theorem dX2_lookFrom_44 : decode cX2_lookFrom 44 = .ok (.lcmp, 1) := by decide +kernel
theorem dX2_lookFrom_45 : decode cX2_lookFrom 45 = .ok (.ifCond .le 11, 3) := by decide +kernel
theorem dX2_lookFrom_48 : decode cX2_lookFrom 48 = .ok (.aload 4, 2) := by decide +kernel
theorem dX2_lookFrom_50 : decode cX2_lookFrom 50 = .ok (.invokevirtual 31, 3) := by decide +kernel
theorem dX2_lookFrom_53 : decode cX2_lookFrom 53 = .ok (.goto 29, 3) := by decide +kernel
theorem dX2_lookFrom_56 : decode cX2_lookFrom 56 = .ok (.aload 4, 2) := by decide +kernel
theorem dX2_lookFrom_58 : decode cX2_lookFrom 58 = .ok (.aload_n 0, 1) := by decide +kernel
theorem dX2_lookFrom_59 : decode cX2_lookFrom 59 = .ok (.getfield 19, 3) := by decide +kernel
theorem dX2_lookFrom_62 : decode cX2_lookFrom 62 = .ok (.iload_n 3, 1) := by decide +kernel
theorem dX2_lookFrom_63 : decode cX2_lookFrom 63 = .ok (.iadd, 1) := by decide +kernel
theorem dX2_lookFrom_64 : decode cX2_lookFrom 64 = .ok (.aload_n 0, 1) := by decide +kernel
theorem dX2_lookFrom_65 : decode cX2_lookFrom 65 = .ok (.getfield 22, 3) := by decide +kernel
theorem dX2_lookFrom_68 : decode cX2_lookFrom 68 = .ok (.aload_n 0, 1) := by decide +kernel
theorem dX2_lookFrom_69 : decode cX2_lookFrom 69 = .ok (.lload 5, 2) := by decide +kernel
theorem dX2_lookFrom_71 : decode cX2_lookFrom 71 = .ok (.invokevirtual 37, 3) := by decide +kernel
theorem dX2_lookFrom_74 : decode cX2_lookFrom 74 = .ok (.isub, 1) := by decide +kernel
theorem dX2_lookFrom_75 : decode cX2_lookFrom 75 = .ok (.iconst 1, 1) := by decide +kernel
theorem dX2_lookFrom_76 : decode cX2_lookFrom 76 = .ok (.iadd, 1) := by decide +kernel
theorem dX2_lookFrom_77 : decode cX2_lookFrom 77 = .ok (.iload_n 3, 1) := by decide +kernel
theorem dX2_lookFrom_78 : decode cX2_lookFrom 78 = .ok (.iadd, 1) := by decide +kernel
theorem dX2_lookFrom_79 : decode cX2_lookFrom 79 = .ok (.invokevirtual 41, 3) := by decide +kernel
theorem dX2_lookFrom_82 : decode cX2_lookFrom 82 = .ok (.return_, 1) := by decide +kernel
theorem dX2_leastDepth_0 : decode cX2_leastDepth 0 = .ok (.iconst 1, 1) := by decide +kernel
theorem dX2_leastDepth_1 : decode cX2_leastDepth 1 = .ok (.istore_n 3, 1) := by decide +kernel
theorem dX2_leastDepth_2 : decode cX2_leastDepth 2 = .ok (.aload_n 0, 1) := by decide +kernel
theorem dX2_leastDepth_3 : decode cX2_leastDepth 3 = .ok (.getfield 22, 3) := by decide +kernel
theorem dX2_leastDepth_6 : decode cX2_leastDepth 6 = .ok (.aload_n 0, 1) := by decide +kernel
theorem dX2_leastDepth_7 : decode cX2_leastDepth 7 = .ok (.getfield 19, 3) := by decide +kernel
theorem dX2_leastDepth_10 : decode cX2_leastDepth 10 = .ok (.isub, 1) := by decide +kernel
theorem dX2_leastDepth_11 : decode cX2_leastDepth 11 = .ok (.istore 4, 2) := by decide +kernel
theorem dX2_leastDepth_13 : decode cX2_leastDepth 13 = .ok (.lload_n 1, 1) := by decide +kernel
theorem dX2_leastDepth_14 : decode cX2_leastDepth 14 = .ok (.aload_n 0, 1) := by decide +kernel
theorem dX2_leastDepth_15 : decode cX2_leastDepth 15 = .ok (.getfield 22, 3) := by decide +kernel
theorem dX2_leastDepth_18 : decode cX2_leastDepth 18 = .ok (.aload_n 0, 1) := by decide +kernel
theorem dX2_leastDepth_19 : decode cX2_leastDepth 19 = .ok (.getfield 19, 3) := by decide +kernel
theorem dX2_leastDepth_22 : decode cX2_leastDepth 22 = .ok (.isub, 1) := by decide +kernel
theorem dX2_leastDepth_23 : decode cX2_leastDepth 23 = .ok (.i2l, 1) := by decide +kernel
theorem dX2_leastDepth_24 : decode cX2_leastDepth 24 = .ok (.invokestatic 25, 3) := by decide +kernel
theorem dX2_leastDepth_27 : decode cX2_leastDepth 27 = .ok (.lmul, 1) := by decide +kernel
theorem dX2_leastDepth_28 : decode cX2_leastDepth 28 = .ok (.lstore 5, 2) := by decide +kernel
theorem dX2_leastDepth_30 : decode cX2_leastDepth 30 = .ok (.iconst 0, 1) := by decide +kernel
theorem dX2_leastDepth_31 : decode cX2_leastDepth 31 = .ok (.istore 7, 2) := by decide +kernel
theorem dX2_leastDepth_33 : decode cX2_leastDepth 33 = .ok (.iload 7, 2) := by decide +kernel
theorem dX2_leastDepth_35 : decode cX2_leastDepth 35 = .ok (.bipush 32, 2) := by decide +kernel
theorem dX2_leastDepth_37 : decode cX2_leastDepth 37 = .ok (.if_icmp .ge 58, 3) := by decide +kernel
theorem dX2_leastDepth_40 : decode cX2_leastDepth 40 = .ok (.iload_n 3, 1) := by decide +kernel
theorem dX2_leastDepth_41 : decode cX2_leastDepth 41 = .ok (.iload 4, 2) := by decide +kernel
theorem dX2_leastDepth_43 : decode cX2_leastDepth 43 = .ok (.if_icmp .ge 52, 3) := by decide +kernel
theorem dX2_leastDepth_46 : decode cX2_leastDepth 46 = .ok (.iload_n 3, 1) := by decide +kernel
theorem dX2_leastDepth_47 : decode cX2_leastDepth 47 = .ok (.iload 4, 2) := by decide +kernel
theorem dX2_leastDepth_49 : decode cX2_leastDepth 49 = .ok (.iload_n 3, 1) := by decide +kernel
theorem dX2_leastDepth_50 : decode cX2_leastDepth 50 = .ok (.isub, 1) := by decide +kernel
theorem dX2_leastDepth_51 : decode cX2_leastDepth 51 = .ok (.iconst 2, 1) := by decide +kernel
theorem dX2_leastDepth_52 : decode cX2_leastDepth 52 = .ok (.idiv, 1) := by decide +kernel
theorem dX2_leastDepth_53 : decode cX2_leastDepth 53 = .ok (.iadd, 1) := by decide +kernel
theorem dX2_leastDepth_54 : decode cX2_leastDepth 54 = .ok (.istore 8, 2) := by decide +kernel
theorem dX2_leastDepth_56 : decode cX2_leastDepth 56 = .ok (.lload 5, 2) := by decide +kernel
theorem dX2_leastDepth_58 : decode cX2_leastDepth 58 = .ok (.aload_n 0, 1) := by decide +kernel
theorem dX2_leastDepth_59 : decode cX2_leastDepth 59 = .ok (.getfield 16, 3) := by decide +kernel
theorem dX2_leastDepth_62 : decode cX2_leastDepth 62 = .ok (.i2l, 1) := by decide +kernel
theorem dX2_leastDepth_63 : decode cX2_leastDepth 63 = .ok (.invokestatic 25, 3) := by decide +kernel
theorem dX2_leastDepth_66 : decode cX2_leastDepth 66 = .ok (.iload 8, 2) := by decide +kernel
theorem dX2_leastDepth_68 : decode cX2_leastDepth 68 = .ok (.i2l, 1) := by decide +kernel
theorem dX2_leastDepth_69 : decode cX2_leastDepth 69 = .ok (.invokestatic 25, 3) := by decide +kernel
theorem dX2_leastDepth_72 : decode cX2_leastDepth 72 = .ok (.lmul, 1) := by decide +kernel
theorem dX2_leastDepth_73 : decode cX2_leastDepth 73 = .ok (.lcmp, 1) := by decide +kernel
theorem dX2_leastDepth_74 : decode cX2_leastDepth 74 = .ok (.ifCond .gt 10, 3) := by decide +kernel
theorem dX2_leastDepth_77 : decode cX2_leastDepth 77 = .ok (.iload 8, 2) := by decide +kernel
theorem dX2_leastDepth_79 : decode cX2_leastDepth 79 = .ok (.istore 4, 2) := by decide +kernel
theorem dX2_leastDepth_81 : decode cX2_leastDepth 81 = .ok (.goto 8, 3) := by decide +kernel
theorem dX2_leastDepth_84 : decode cX2_leastDepth 84 = .ok (.iload 8, 2) := by decide +kernel
theorem dX2_leastDepth_86 : decode cX2_leastDepth 86 = .ok (.iconst 1, 1) := by decide +kernel
theorem dX2_leastDepth_87 : decode cX2_leastDepth 87 = .ok (.iadd, 1) := by decide +kernel
theorem dX2_leastDepth_88 : decode cX2_leastDepth 88 = .ok (.istore_n 3, 1) := by decide +kernel
theorem dX2_leastDepth_89 : decode cX2_leastDepth 89 = .ok (.iinc 7 1, 3) := by decide +kernel
theorem dX2_leastDepth_92 : decode cX2_leastDepth 92 = .ok (.goto (-59), 3) := by decide +kernel
theorem dX2_leastDepth_95 : decode cX2_leastDepth 95 = .ok (.iload_n 3, 1) := by decide +kernel
theorem dX2_leastDepth_96 : decode cX2_leastDepth 96 = .ok (.ireturn, 1) := by decide +kernel
theorem dX3_init_0 : decode cX3_init 0 = .ok (.aload_n 0, 1) := by decide +kernel
theorem dX3_init_1 : decode cX3_init 1 = .ok (.invokespecial 3, 3) := by decide +kernel
theorem dX3_init_4 : decode cX3_init 4 = .ok (.aload_n 0, 1) := by decide +kernel
theorem dX3_init_5 : decode cX3_init 5 = .ok (.bipush 100, 2) := by decide +kernel
theorem dX3_init_7 : decode cX3_init 7 = .ok (.newarray .int, 2) := by decide +kernel
theorem dX3_init_9 : decode cX3_init 9 = .ok (.putfield 9, 3) := by decide +kernel
theorem dX3_init_12 : decode cX3_init 12 = .ok (.aload_n 0, 1) := by decide +kernel
theorem dX3_init_13 : decode cX3_init 13 = .ok (.bipush 50, 2) := by decide +kernel
theorem dX3_init_15 : decode cX3_init 15 = .ok (.newarray .int, 2) := by decide +kernel
theorem dX3_init_17 : decode cX3_init 17 = .ok (.putfield 15, 3) := by decide +kernel
theorem dX3_init_20 : decode cX3_init 20 = .ok (.aload_n 0, 1) := by decide +kernel
theorem dX3_init_21 : decode cX3_init 21 = .ok (.bipush 100, 2) := by decide +kernel
theorem dX3_init_23 : decode cX3_init 23 = .ok (.newarray .int, 2) := by decide +kernel
theorem dX3_init_25 : decode cX3_init 25 = .ok (.putfield 18, 3) := by decide +kernel
theorem dX3_init_28 : decode cX3_init 28 = .ok (.aload_n 0, 1) := by decide +kernel
theorem dX3_init_29 : decode cX3_init 29 = .ok (.iconst 0, 1) := by decide +kernel
theorem dX3_init_30 : decode cX3_init 30 = .ok (.putfield 21, 3) := by decide +kernel
theorem dX3_init_33 : decode cX3_init 33 = .ok (.aload_n 0, 1) := by decide +kernel
theorem dX3_init_34 : decode cX3_init 34 = .ok (.iconst 0, 1) := by decide +kernel
theorem dX3_init_35 : decode cX3_init 35 = .ok (.putfield 25, 3) := by decide +kernel
theorem dX3_init_38 : decode cX3_init 38 = .ok (.return_, 1) := by decide +kernel
theorem dX3_clear_0 : decode cX3_clear 0 = .ok (.aload_n 0, 1) := by decide +kernel
theorem dX3_clear_1 : decode cX3_clear 1 = .ok (.iconst 0, 1) := by decide +kernel
theorem dX3_clear_2 : decode cX3_clear 2 = .ok (.putfield 21, 3) := by decide +kernel
theorem dX3_clear_5 : decode cX3_clear 5 = .ok (.aload_n 0, 1) := by decide +kernel
theorem dX3_clear_6 : decode cX3_clear 6 = .ok (.iconst 0, 1) := by decide +kernel
theorem dX3_clear_7 : decode cX3_clear 7 = .ok (.putfield 25, 3) := by decide +kernel
theorem dX3_clear_10 : decode cX3_clear 10 = .ok (.return_, 1) := by decide +kernel
theorem dX3_add_0 : decode cX3_add 0 = .ok (.aload_n 0, 1) := by decide +kernel
theorem dX3_add_1 : decode cX3_add 1 = .ok (.getfield 25, 3) := by decide +kernel
theorem dX3_add_4 : decode cX3_add 4 = .ok (.bipush 50, 2) := by decide +kernel
theorem dX3_add_6 : decode cX3_add 6 = .ok (.if_icmp .ge 14, 3) := by decide +kernel
theorem dX3_add_9 : decode cX3_add 9 = .ok (.aload_n 0, 1) := by decide +kernel
theorem dX3_add_10 : decode cX3_add 10 = .ok (.getfield 21, 3) := by decide +kernel
theorem dX3_add_13 : decode cX3_add 13 = .ok (.iconst 2, 1) := by decide +kernel
theorem dX3_add_14 : decode cX3_add 14 = .ok (.iadd, 1) := by decide +kernel
theorem dX3_add_15 : decode cX3_add 15 = .ok (.bipush 100, 2) := by decide +kernel
theorem dX3_add_17 : decode cX3_add 17 = .ok (.if_icmp .le 4, 3) := by decide +kernel
theorem dX3_add_20 : decode cX3_add 20 = .ok (.return_, 1) := by decide +kernel
theorem dX3_add_21 : decode cX3_add 21 = .ok (.aload_n 0, 1) := by decide +kernel
theorem dX3_add_22 : decode cX3_add 22 = .ok (.getfield 15, 3) := by decide +kernel
theorem dX3_add_25 : decode cX3_add 25 = .ok (.aload_n 0, 1) := by decide +kernel
theorem dX3_add_26 : decode cX3_add 26 = .ok (.getfield 25, 3) := by decide +kernel
theorem dX3_add_29 : decode cX3_add 29 = .ok (.aload_n 0, 1) := by decide +kernel
theorem dX3_add_30 : decode cX3_add 30 = .ok (.getfield 21, 3) := by decide +kernel
theorem dX3_add_33 : decode cX3_add 33 = .ok (.iastore, 1) := by decide +kernel
theorem dX3_add_34 : decode cX3_add 34 = .ok (.aload_n 0, 1) := by decide +kernel
theorem dX3_add_35 : decode cX3_add 35 = .ok (.dup, 1) := by decide +kernel
theorem dX3_add_36 : decode cX3_add 36 = .ok (.getfield 25, 3) := by decide +kernel
theorem dX3_add_39 : decode cX3_add 39 = .ok (.iconst 1, 1) := by decide +kernel
theorem dX3_add_40 : decode cX3_add 40 = .ok (.iadd, 1) := by decide +kernel
theorem dX3_add_41 : decode cX3_add 41 = .ok (.putfield 25, 3) := by decide +kernel
theorem dX3_add_44 : decode cX3_add 44 = .ok (.iload_n 1, 1) := by decide +kernel
theorem dX3_add_45 : decode cX3_add 45 = .ok (.iload_n 2, 1) := by decide +kernel
theorem dX3_add_46 : decode cX3_add 46 = .ok (.if_icmp .ge 35, 3) := by decide +kernel
theorem dX3_add_49 : decode cX3_add 49 = .ok (.aload_n 0, 1) := by decide +kernel
theorem dX3_add_50 : decode cX3_add 50 = .ok (.getfield 9, 3) := by decide +kernel
theorem dX3_add_53 : decode cX3_add 53 = .ok (.aload_n 0, 1) := by decide +kernel
theorem dX3_add_54 : decode cX3_add 54 = .ok (.getfield 21, 3) := by decide +kernel
theorem dX3_add_57 : decode cX3_add 57 = .ok (.iload_n 1, 1) := by decide +kernel
theorem dX3_add_58 : decode cX3_add 58 = .ok (.iastore, 1) := by decide +kernel
theorem dX3_add_59 : decode cX3_add 59 = .ok (.aload_n 0, 1) := by decide +kernel
theorem dX3_add_60 : decode cX3_add 60 = .ok (.getfield 9, 3) := by decide +kernel
theorem dX3_add_63 : decode cX3_add 63 = .ok (.aload_n 0, 1) := by decide +kernel
theorem dX3_add_64 : decode cX3_add 64 = .ok (.getfield 21, 3) := by decide +kernel
theorem dX3_add_67 : decode cX3_add 67 = .ok (.iconst 1, 1) := by decide +kernel
theorem dX3_add_68 : decode cX3_add 68 = .ok (.iadd, 1) := by decide +kernel
theorem dX3_add_69 : decode cX3_add 69 = .ok (.iload_n 2, 1) := by decide +kernel
theorem dX3_add_70 : decode cX3_add 70 = .ok (.iastore, 1) := by decide +kernel
theorem dX3_add_71 : decode cX3_add 71 = .ok (.aload_n 0, 1) := by decide +kernel
theorem dX3_add_72 : decode cX3_add 72 = .ok (.dup, 1) := by decide +kernel
theorem dX3_add_73 : decode cX3_add 73 = .ok (.getfield 21, 3) := by decide +kernel
theorem dX3_add_76 : decode cX3_add 76 = .ok (.iconst 2, 1) := by decide +kernel
theorem dX3_add_77 : decode cX3_add 77 = .ok (.iadd, 1) := by decide +kernel
theorem dX3_add_78 : decode cX3_add 78 = .ok (.putfield 21, 3) := by decide +kernel
theorem dX3_add_81 : decode cX3_add 81 = .ok (.return_, 1) := by decide +kernel
theorem dX3_joinNewest_0 : decode cX3_joinNewest 0 = .ok (.aload_n 0, 1) := by decide +kernel
theorem dX3_joinNewest_1 : decode cX3_joinNewest 1 = .ok (.getfield 25, 3) := by decide +kernel
theorem dX3_joinNewest_4 : decode cX3_joinNewest 4 = .ok (.iconst 2, 1) := by decide +kernel
theorem dX3_joinNewest_5 : decode cX3_joinNewest 5 = .ok (.if_icmp .ge 4, 3) := by decide +kernel
theorem dX3_joinNewest_8 : decode cX3_joinNewest 8 = .ok (.return_, 1) := by decide +kernel
theorem dX3_joinNewest_9 : decode cX3_joinNewest 9 = .ok (.aload_n 0, 1) := by decide +kernel
theorem dX3_joinNewest_10 : decode cX3_joinNewest 10 = .ok (.getfield 15, 3) := by decide +kernel
theorem dX3_joinNewest_13 : decode cX3_joinNewest 13 = .ok (.aload_n 0, 1) := by decide +kernel
theorem dX3_joinNewest_14 : decode cX3_joinNewest 14 = .ok (.getfield 25, 3) := by decide +kernel
theorem dX3_joinNewest_17 : decode cX3_joinNewest 17 = .ok (.iconst 2, 1) := by decide +kernel
theorem dX3_joinNewest_18 : decode cX3_joinNewest 18 = .ok (.isub, 1) := by decide +kernel
theorem dX3_joinNewest_19 : decode cX3_joinNewest 19 = .ok (.iaload, 1) := by decide +kernel
theorem dX3_joinNewest_20 : decode cX3_joinNewest 20 = .ok (.istore_n 2, 1) := by decide +kernel
theorem dX3_joinNewest_21 : decode cX3_joinNewest 21 = .ok (.aload_n 0, 1) := by decide +kernel
theorem dX3_joinNewest_22 : decode cX3_joinNewest 22 = .ok (.iload_n 2, 1) := by decide +kernel
theorem dX3_joinNewest_23 : decode cX3_joinNewest 23 = .ok (.aload_n 0, 1) := by decide +kernel
theorem dX3_joinNewest_24 : decode cX3_joinNewest 24 = .ok (.getfield 15, 3) := by decide +kernel
theorem dX3_joinNewest_27 : decode cX3_joinNewest 27 = .ok (.aload_n 0, 1) := by decide +kernel
theorem dX3_joinNewest_28 : decode cX3_joinNewest 28 = .ok (.getfield 25, 3) := by decide +kernel
theorem dX3_joinNewest_31 : decode cX3_joinNewest 31 = .ok (.iconst 1, 1) := by decide +kernel
theorem dX3_joinNewest_32 : decode cX3_joinNewest 32 = .ok (.isub, 1) := by decide +kernel
theorem dX3_joinNewest_33 : decode cX3_joinNewest 33 = .ok (.iaload, 1) := by decide +kernel
theorem dX3_joinNewest_34 : decode cX3_joinNewest 34 = .ok (.iload_n 1, 1) := by decide +kernel
theorem dX3_joinNewest_35 : decode cX3_joinNewest 35 = .ok (.invokevirtual 28, 3) := by decide +kernel
theorem dX3_joinNewest_38 : decode cX3_joinNewest 38 = .ok (.istore_n 3, 1) := by decide +kernel
theorem dX3_joinNewest_39 : decode cX3_joinNewest 39 = .ok (.iconst 0, 1) := by decide +kernel
theorem dX3_joinNewest_40 : decode cX3_joinNewest 40 = .ok (.istore 4, 2) := by decide +kernel
theorem dX3_joinNewest_42 : decode cX3_joinNewest 42 = .ok (.iload 4, 2) := by decide +kernel
theorem dX3_joinNewest_44 : decode cX3_joinNewest 44 = .ok (.iload_n 3, 1) := by decide +kernel
theorem dX3_joinNewest_45 : decode cX3_joinNewest 45 = .ok (.if_icmp .ge 34, 3) := by decide +kernel
theorem dX3_joinNewest_48 : decode cX3_joinNewest 48 = .ok (.iload_n 2, 1) := by decide +kernel
theorem dX3_joinNewest_49 : decode cX3_joinNewest 49 = .ok (.iload 4, 2) := by decide +kernel
theorem dX3_joinNewest_51 : decode cX3_joinNewest 51 = .ok (.iadd, 1) := by decide +kernel
theorem dX3_joinNewest_52 : decode cX3_joinNewest 52 = .ok (.bipush 100, 2) := by decide +kernel
theorem dX3_joinNewest_54 : decode cX3_joinNewest 54 = .ok (.if_icmp .ge 25, 3) := by decide +kernel
theorem dX3_joinNewest_57 : decode cX3_joinNewest 57 = .ok (.aload_n 0, 1) := by decide +kernel
theorem dX3_joinNewest_58 : decode cX3_joinNewest 58 = .ok (.getfield 9, 3) := by decide +kernel
theorem dX3_joinNewest_61 : decode cX3_joinNewest 61 = .ok (.iload_n 2, 1) := by decide +kernel
theorem dX3_joinNewest_62 : decode cX3_joinNewest 62 = .ok (.iload 4, 2) := by decide +kernel
theorem dX3_joinNewest_64 : decode cX3_joinNewest 64 = .ok (.iadd, 1) := by decide +kernel
theorem dX3_joinNewest_65 : decode cX3_joinNewest 65 = .ok (.aload_n 0, 1) := by decide +kernel
theorem dX3_joinNewest_66 : decode cX3_joinNewest 66 = .ok (.getfield 18, 3) := by decide +kernel
theorem dX3_joinNewest_69 : decode cX3_joinNewest 69 = .ok (.iload 4, 2) := by decide +kernel
theorem dX3_joinNewest_71 : decode cX3_joinNewest 71 = .ok (.iaload, 1) := by decide +kernel
theorem dX3_joinNewest_72 : decode cX3_joinNewest 72 = .ok (.iastore, 1) := by decide +kernel
theorem dX3_joinNewest_73 : decode cX3_joinNewest 73 = .ok (.iinc 4 1, 3) := by decide +kernel
theorem dX3_joinNewest_76 : decode cX3_joinNewest 76 = .ok (.goto (-34), 3) := by decide +kernel
theorem dX3_joinNewest_79 : decode cX3_joinNewest 79 = .ok (.aload_n 0, 1) := by decide +kernel
theorem dX3_joinNewest_80 : decode cX3_joinNewest 80 = .ok (.iload_n 2, 1) := by decide +kernel
theorem dX3_joinNewest_81 : decode cX3_joinNewest 81 = .ok (.iload_n 3, 1) := by decide +kernel
theorem dX3_joinNewest_82 : decode cX3_joinNewest 82 = .ok (.iadd, 1) := by decide +kernel
theorem dX3_joinNewest_83 : decode cX3_joinNewest 83 = .ok (.putfield 21, 3) := by decide +kernel
theorem dX3_joinNewest_86 : decode cX3_joinNewest 86 = .ok (.aload_n 0, 1) := by decide +kernel
theorem dX3_joinNewest_87 : decode cX3_joinNewest 87 = .ok (.dup, 1) := by decide +kernel
theorem dX3_joinNewest_88 : decode cX3_joinNewest 88 = .ok (.getfield 25, 3) := by decide +kernel
theorem dX3_joinNewest_91 : decode cX3_joinNewest 91 = .ok (.iconst 1, 1) := by decide +kernel
theorem dX3_joinNewest_92 : decode cX3_joinNewest 92 = .ok (.isub, 1) := by decide +kernel
theorem dX3_joinNewest_93 : decode cX3_joinNewest 93 = .ok (.putfield 25, 3) := by decide +kernel
theorem dX3_joinNewest_96 : decode cX3_joinNewest 96 = .ok (.return_, 1) := by decide +kernel
theorem dX3_mix_0 : decode cX3_mix 0 = .ok (.iload_n 1, 1) := by decide +kernel
theorem dX3_mix_1 : decode cX3_mix 1 = .ok (.istore 4, 2) := by decide +kernel
theorem dX3_mix_3 : decode cX3_mix 3 = .ok (.iload_n 2, 1) := by decide +kernel
theorem dX3_mix_4 : decode cX3_mix 4 = .ok (.istore 5, 2) := by decide +kernel
theorem dX3_mix_6 : decode cX3_mix 6 = .ok (.iconst 0, 1) := by decide +kernel
theorem dX3_mix_7 : decode cX3_mix 7 = .ok (.istore 6, 2) := by decide +kernel
theorem dX3_mix_9 : decode cX3_mix 9 = .ok (.iconst 0, 1) := by decide +kernel
theorem dX3_mix_10 : decode cX3_mix 10 = .ok (.istore 7, 2) := by decide +kernel
theorem dX3_mix_12 : decode cX3_mix 12 = .ok (.iconst 0, 1) := by decide +kernel
theorem dX3_mix_13 : decode cX3_mix 13 = .ok (.istore 8, 2) := by decide +kernel
theorem dX3_mix_15 : decode cX3_mix 15 = .ok (.iconst 0, 1) := by decide +kernel
theorem dX3_mix_16 : decode cX3_mix 16 = .ok (.istore 9, 2) := by decide +kernel
theorem dX3_mix_18 : decode cX3_mix 18 = .ok (.iconst 0, 1) := by decide +kernel
theorem dX3_mix_19 : decode cX3_mix 19 = .ok (.istore 10, 2) := by decide +kernel
theorem dX3_mix_21 : decode cX3_mix 21 = .ok (.iload 10, 2) := by decide +kernel
theorem dX3_mix_23 : decode cX3_mix 23 = .ok (.bipush 100, 2) := by decide +kernel
theorem dX3_mix_25 : decode cX3_mix 25 = .ok (.if_icmp .ge 141, 3) := by decide +kernel
theorem dX3_mix_28 : decode cX3_mix 28 = .ok (.iload 4, 2) := by decide +kernel
theorem dX3_mix_30 : decode cX3_mix 30 = .ok (.iload_n 2, 1) := by decide +kernel
theorem dX3_mix_31 : decode cX3_mix 31 = .ok (.if_icmp .lt 12, 3) := by decide +kernel
theorem dX3_mix_34 : decode cX3_mix 34 = .ok (.iload 5, 2) := by decide +kernel
theorem dX3_mix_36 : decode cX3_mix 36 = .ok (.aload_n 0, 1) := by decide +kernel
theorem dX3_mix_37 : decode cX3_mix 37 = .ok (.getfield 21, 3) := by decide +kernel
theorem dX3_mix_40 : decode cX3_mix 40 = .ok (.if_icmp .ge 126, 3) := by decide +kernel
theorem dX3_mix_43 : decode cX3_mix 43 = .ok (.aload_n 0, 1) := by decide +kernel
theorem dX3_mix_44 : decode cX3_mix 44 = .ok (.iload 4, 2) := by decide +kernel
theorem dX3_mix_46 : decode cX3_mix 46 = .ok (.iload_n 2, 1) := by decide +kernel
theorem dX3_mix_47 : decode cX3_mix 47 = .ok (.iload 5, 2) := by decide +kernel
theorem dX3_mix_49 : decode cX3_mix 49 = .ok (.invokevirtual 32, 3) := by decide +kernel
theorem dX3_mix_52 : decode cX3_mix 52 = .ok (.istore 11, 2) := by decide +kernel
theorem dX3_mix_54 : decode cX3_mix 54 = .ok (.iload 4, 2) := by decide +kernel
theorem dX3_mix_56 : decode cX3_mix 56 = .ok (.iload_n 2, 1) := by decide +kernel
theorem dX3_mix_57 : decode cX3_mix 57 = .ok (.if_icmp .ge 30, 3) := by decide +kernel
theorem dX3_mix_60 : decode cX3_mix 60 = .ok (.aload_n 0, 1) := by decide +kernel
theorem dX3_mix_61 : decode cX3_mix 61 = .ok (.getfield 9, 3) := by decide +kernel
theorem dX3_mix_64 : decode cX3_mix 64 = .ok (.iload 4, 2) := by decide +kernel
theorem dX3_mix_66 : decode cX3_mix 66 = .ok (.iaload, 1) := by decide +kernel
theorem dX3_mix_67 : decode cX3_mix 67 = .ok (.iload 11, 2) := by decide +kernel
theorem dX3_mix_69 : decode cX3_mix 69 = .ok (.if_icmp .ne 18, 3) := by decide +kernel
theorem dX3_mix_72 : decode cX3_mix 72 = .ok (.iload 7, 2) := by decide +kernel
theorem dX3_mix_74 : decode cX3_mix 74 = .ok (.ifCond .ne 7, 3) := by decide +kernel
theorem dX3_mix_77 : decode cX3_mix 77 = .ok (.iconst 1, 1) := by decide +kernel
theorem dX3_mix_78 : decode cX3_mix 78 = .ok (.goto 4, 3) := by decide +kernel
theorem dX3_mix_81 : decode cX3_mix 81 = .ok (.iconst 0, 1) := by decide +kernel
theorem dX3_mix_82 : decode cX3_mix 82 = .ok (.istore 7, 2) := by decide +kernel
theorem dX3_mix_84 : decode cX3_mix 84 = .ok (.iinc 4 1, 3) := by decide +kernel
theorem dX3_mix_87 : decode cX3_mix 87 = .ok (.iload 5, 2) := by decide +kernel
theorem dX3_mix_89 : decode cX3_mix 89 = .ok (.aload_n 0, 1) := by decide +kernel
theorem dX3_mix_90 : decode cX3_mix 90 = .ok (.getfield 21, 3) := by decide +kernel
theorem dX3_mix_93 : decode cX3_mix 93 = .ok (.if_icmp .ge 30, 3) := by decide +kernel
theorem dX3_mix_96 : decode cX3_mix 96 = .ok (.aload_n 0, 1) := by decide +kernel
theorem dX3_mix_97 : decode cX3_mix 97 = .ok (.getfield 9, 3) := by decide +kernel
theorem dX3_mix_100 : decode cX3_mix 100 = .ok (.iload 5, 2) := by decide +kernel
theorem dX3_mix_102 : decode cX3_mix 102 = .ok (.iaload, 1) := by decide +kernel
theorem dX3_mix_103 : decode cX3_mix 103 = .ok (.iload 11, 2) := by decide +kernel
theorem dX3_mix_105 : decode cX3_mix 105 = .ok (.if_icmp .ne 18, 3) := by decide +kernel
theorem dX3_mix_108 : decode cX3_mix 108 = .ok (.iload 8, 2) := by decide +kernel
theorem dX3_mix_110 : decode cX3_mix 110 = .ok (.ifCond .ne 7, 3) := by decide +kernel
theorem dX3_mix_113 : decode cX3_mix 113 = .ok (.iconst 1, 1) := by decide +kernel
theorem dX3_mix_114 : decode cX3_mix 114 = .ok (.goto 4, 3) := by decide +kernel
theorem dX3_mix_117 : decode cX3_mix 117 = .ok (.iconst 0, 1) := by decide +kernel
theorem dX3_mix_118 : decode cX3_mix 118 = .ok (.istore 8, 2) := by decide +kernel
theorem dX3_mix_120 : decode cX3_mix 120 = .ok (.iinc 5 1, 3) := by decide +kernel
theorem dX3_mix_123 : decode cX3_mix 123 = .ok (.iload 7, 2) := by decide +kernel
theorem dX3_mix_125 : decode cX3_mix 125 = .ok (.iload 8, 2) := by decide +kernel
theorem dX3_mix_127 : decode cX3_mix 127 = .ok (.iload_n 3, 1) := by decide +kernel
theorem dX3_mix_128 : decode cX3_mix 128 = .ok (.invokestatic 35, 3) := by decide +kernel
theorem dX3_mix_131 : decode cX3_mix 131 = .ok (.iload 9, 2) := by decide +kernel
theorem dX3_mix_133 : decode cX3_mix 133 = .ok (.if_icmp .eq 27, 3) := by decide +kernel
theorem dX3_mix_136 : decode cX3_mix 136 = .ok (.iload 9, 2) := by decide +kernel
theorem dX3_mix_138 : decode cX3_mix 138 = .ok (.ifCond .ne 7, 3) := by decide +kernel
theorem dX3_mix_141 : decode cX3_mix 141 = .ok (.iconst 1, 1) := by decide +kernel
theorem dX3_mix_142 : decode cX3_mix 142 = .ok (.goto 4, 3) := by decide +kernel
theorem dX3_mix_145 : decode cX3_mix 145 = .ok (.iconst 0, 1) := by decide +kernel
theorem dX3_mix_146 : decode cX3_mix 146 = .ok (.istore 9, 2) := by decide +kernel
theorem dX3_mix_148 : decode cX3_mix 148 = .ok (.aload_n 0, 1) := by decide +kernel
theorem dX3_mix_149 : decode cX3_mix 149 = .ok (.getfield 18, 3) := by decide +kernel
theorem dX3_mix_152 : decode cX3_mix 152 = .ok (.iload 6, 2) := by decide +kernel
theorem dX3_mix_154 : decode cX3_mix 154 = .ok (.iload 11, 2) := by decide +kernel
theorem dX3_mix_156 : decode cX3_mix 156 = .ok (.iastore, 1) := by decide +kernel
theorem dX3_mix_157 : decode cX3_mix 157 = .ok (.iinc 6 1, 3) := by decide +kernel
theorem dX3_mix_160 : decode cX3_mix 160 = .ok (.iinc 10 1, 3) := by decide +kernel
theorem dX3_mix_163 : decode cX3_mix 163 = .ok (.goto (-142), 3) := by decide +kernel
theorem dX3_mix_166 : decode cX3_mix 166 = .ok (.iload 6, 2) := by decide +kernel
theorem dX3_mix_168 : decode cX3_mix 168 = .ok (.ireturn, 1) := by decide +kernel
theorem dX3_nextEdge_0 : decode cX3_nextEdge 0 = .ok (.iload_n 1, 1) := by decide +kernel
theorem dX3_nextEdge_1 : decode cX3_nextEdge 1 = .ok (.iload_n 2, 1) := by decide +kernel
theorem dX3_nextEdge_2 : decode cX3_nextEdge 2 = .ok (.if_icmp .lt 22, 3) := by decide +kernel
theorem dX3_nextEdge_5 : decode cX3_nextEdge 5 = .ok (.iload_n 3, 1) := by decide +kernel
theorem dX3_nextEdge_6 : decode cX3_nextEdge 6 = .ok (.aload_n 0, 1) := by decide +kernel
theorem dX3_nextEdge_7 : decode cX3_nextEdge 7 = .ok (.getfield 21, 3) := by decide +kernel
theorem dX3_nextEdge_10 : decode cX3_nextEdge 10 = .ok (.if_icmp .ge 12, 3) := by decide +kernel
theorem dX3_nextEdge_13 : decode cX3_nextEdge 13 = .ok (.aload_n 0, 1) := by decide +kernel
theorem dX3_nextEdge_14 : decode cX3_nextEdge 14 = .ok (.getfield 9, 3) := by decide +kernel
theorem dX3_nextEdge_17 : decode cX3_nextEdge 17 = .ok (.iload_n 3, 1) := by decide +kernel
theorem dX3_nextEdge_18 : decode cX3_nextEdge 18 = .ok (.iaload, 1) := by decide +kernel
theorem dX3_nextEdge_19 : decode cX3_nextEdge 19 = .ok (.goto 4, 3) := by decide +kernel
theorem dX3_nextEdge_22 : decode cX3_nextEdge 22 = .ok (.iconst 0, 1) := by decide +kernel
theorem dX3_nextEdge_23 : decode cX3_nextEdge 23 = .ok (.ireturn, 1) := by decide +kernel
theorem dX3_nextEdge_24 : decode cX3_nextEdge 24 = .ok (.iload_n 3, 1) := by decide +kernel
theorem dX3_nextEdge_25 : decode cX3_nextEdge 25 = .ok (.aload_n 0, 1) := by decide +kernel
theorem dX3_nextEdge_26 : decode cX3_nextEdge 26 = .ok (.getfield 21, 3) := by decide +kernel
theorem dX3_nextEdge_29 : decode cX3_nextEdge 29 = .ok (.if_icmp .ge 27, 3) := by decide +kernel
theorem dX3_nextEdge_32 : decode cX3_nextEdge 32 = .ok (.aload_n 0, 1) := by decide +kernel
theorem dX3_nextEdge_33 : decode cX3_nextEdge 33 = .ok (.getfield 9, 3) := by decide +kernel
theorem dX3_nextEdge_36 : decode cX3_nextEdge 36 = .ok (.iload_n 3, 1) := by decide +kernel
theorem dX3_nextEdge_37 : decode cX3_nextEdge 37 = .ok (.iaload, 1) := by decide +kernel
theorem dX3_nextEdge_38 : decode cX3_nextEdge 38 = .ok (.aload_n 0, 1) := by decide +kernel
theorem dX3_nextEdge_39 : decode cX3_nextEdge 39 = .ok (.getfield 9, 3) := by decide +kernel
theorem dX3_nextEdge_42 : decode cX3_nextEdge 42 = .ok (.iload_n 1, 1) := by decide +kernel
theorem dX3_nextEdge_43 : decode cX3_nextEdge 43 = .ok (.iaload, 1) := by decide +kernel
theorem dX3_nextEdge_44 : decode cX3_nextEdge 44 = .ok (.if_icmp .ge 12, 3) := by decide +kernel
theorem dX3_nextEdge_47 : decode cX3_nextEdge 47 = .ok (.aload_n 0, 1) := by decide +kernel
theorem dX3_nextEdge_48 : decode cX3_nextEdge 48 = .ok (.getfield 9, 3) := by decide +kernel
theorem dX3_nextEdge_51 : decode cX3_nextEdge 51 = .ok (.iload_n 3, 1) := by decide +kernel
theorem dX3_nextEdge_52 : decode cX3_nextEdge 52 = .ok (.iaload, 1) := by decide +kernel
theorem dX3_nextEdge_53 : decode cX3_nextEdge 53 = .ok (.goto 9, 3) := by decide +kernel
theorem dX3_nextEdge_56 : decode cX3_nextEdge 56 = .ok (.aload_n 0, 1) := by decide +kernel
theorem dX3_nextEdge_57 : decode cX3_nextEdge 57 = .ok (.getfield 9, 3) := by decide +kernel
theorem dX3_nextEdge_60 : decode cX3_nextEdge 60 = .ok (.iload_n 1, 1) := by decide +kernel
theorem dX3_nextEdge_61 : decode cX3_nextEdge 61 = .ok (.iaload, 1) := by decide +kernel
theorem dX3_nextEdge_62 : decode cX3_nextEdge 62 = .ok (.ireturn, 1) := by decide +kernel
theorem dX3_isJoined_0 : decode cX3_isJoined 0 = .ok (.iload_n 2, 1) := by decide +kernel
theorem dX3_isJoined_1 : decode cX3_isJoined 1 = .ok (.lookupswitch 55 #[(0, 27), (1, 41)], 27) := by decide +kernel
theorem dX3_isJoined_28 : decode cX3_isJoined 28 = .ok (.iload_n 0, 1) := by decide +kernel
theorem dX3_isJoined_29 : decode cX3_isJoined 29 = .ok (.ifCond .ne 7, 3) := by decide +kernel
theorem dX3_isJoined_32 : decode cX3_isJoined 32 = .ok (.iload_n 1, 1) := by decide +kernel
theorem dX3_isJoined_33 : decode cX3_isJoined 33 = .ok (.ifCond .eq 7, 3) := by decide +kernel
theorem dX3_isJoined_36 : decode cX3_isJoined 36 = .ok (.iconst 1, 1) := by decide +kernel
theorem dX3_isJoined_37 : decode cX3_isJoined 37 = .ok (.goto 4, 3) := by decide +kernel
theorem dX3_isJoined_40 : decode cX3_isJoined 40 = .ok (.iconst 0, 1) := by decide +kernel
theorem dX3_isJoined_41 : decode cX3_isJoined 41 = .ok (.ireturn, 1) := by decide +kernel
theorem dX3_isJoined_42 : decode cX3_isJoined 42 = .ok (.iload_n 0, 1) := by decide +kernel
theorem dX3_isJoined_43 : decode cX3_isJoined 43 = .ok (.ifCond .eq 11, 3) := by decide +kernel
theorem dX3_isJoined_46 : decode cX3_isJoined 46 = .ok (.iload_n 1, 1) := by decide +kernel
theorem dX3_isJoined_47 : decode cX3_isJoined 47 = .ok (.ifCond .eq 7, 3) := by decide +kernel
theorem dX3_isJoined_50 : decode cX3_isJoined 50 = .ok (.iconst 1, 1) := by decide +kernel
theorem dX3_isJoined_51 : decode cX3_isJoined 51 = .ok (.goto 4, 3) := by decide +kernel
theorem dX3_isJoined_54 : decode cX3_isJoined 54 = .ok (.iconst 0, 1) := by decide +kernel
theorem dX3_isJoined_55 : decode cX3_isJoined 55 = .ok (.ireturn, 1) := by decide +kernel
theorem dX3_isJoined_56 : decode cX3_isJoined 56 = .ok (.iload_n 0, 1) := by decide +kernel
theorem dX3_isJoined_57 : decode cX3_isJoined 57 = .ok (.ifCond .eq 11, 3) := by decide +kernel
theorem dX3_isJoined_60 : decode cX3_isJoined 60 = .ok (.iload_n 1, 1) := by decide +kernel
theorem dX3_isJoined_61 : decode cX3_isJoined 61 = .ok (.ifCond .ne 7, 3) := by decide +kernel
theorem dX3_isJoined_64 : decode cX3_isJoined 64 = .ok (.iconst 1, 1) := by decide +kernel
theorem dX3_isJoined_65 : decode cX3_isJoined 65 = .ok (.goto 4, 3) := by decide +kernel
theorem dX3_isJoined_68 : decode cX3_isJoined 68 = .ok (.iconst 0, 1) := by decide +kernel
theorem dX3_isJoined_69 : decode cX3_isJoined 69 = .ok (.ireturn, 1) := by decide +kernel
theorem dX3_copyTo_0 : decode cX3_copyTo 0 = .ok (.aload_n 1, 1) := by decide +kernel
theorem dX3_copyTo_1 : decode cX3_copyTo 1 = .ok (.aload_n 0, 1) := by decide +kernel
theorem dX3_copyTo_2 : decode cX3_copyTo 2 = .ok (.getfield 9, 3) := by decide +kernel
theorem dX3_copyTo_5 : decode cX3_copyTo 5 = .ok (.aload_n 0, 1) := by decide +kernel
theorem dX3_copyTo_6 : decode cX3_copyTo 6 = .ok (.getfield 21, 3) := by decide +kernel
theorem dX3_copyTo_9 : decode cX3_copyTo 9 = .ok (.invokevirtual 39, 3) := by decide +kernel
theorem dX3_copyTo_12 : decode cX3_copyTo 12 = .ok (.return_, 1) := by decide +kernel
theorem dX4_init_0 : decode cX4_init 0 = .ok (.aload_n 0, 1) := by decide +kernel
theorem dX4_init_1 : decode cX4_init 1 = .ok (.aload_n 1, 1) := by decide +kernel
theorem dX4_init_2 : decode cX4_init 2 = .ok (.getfield 1, 3) := by decide +kernel
theorem dX4_init_5 : decode cX4_init 5 = .ok (.aload_n 2, 1) := by decide +kernel
theorem dX4_init_6 : decode cX4_init 6 = .ok (.getfield 1, 3) := by decide +kernel
theorem dX4_init_9 : decode cX4_init 9 = .ok (.iadd, 1) := by decide +kernel
theorem dX4_init_10 : decode cX4_init 10 = .ok (.iconst 1, 1) := by decide +kernel
theorem dX4_init_11 : decode cX4_init 11 = .ok (.iadd, 1) := by decide +kernel
theorem dX4_init_12 : decode cX4_init 12 = .ok (.invokespecial 7, 3) := by decide +kernel
theorem dX4_init_15 : decode cX4_init 15 = .ok (.aload_n 0, 1) := by decide +kernel
theorem dX4_init_16 : decode cX4_init 16 = .ok (.aload_n 1, 1) := by decide +kernel
theorem dX4_init_17 : decode cX4_init 17 = .ok (.putfield 11, 3) := by decide +kernel
theorem dX4_init_20 : decode cX4_init 20 = .ok (.aload_n 0, 1) := by decide +kernel
theorem dX4_init_21 : decode cX4_init 21 = .ok (.aload_n 2, 1) := by decide +kernel
theorem dX4_init_22 : decode cX4_init 22 = .ok (.putfield 17, 3) := by decide +kernel
theorem dX4_init_25 : decode cX4_init 25 = .ok (.aload_n 0, 1) := by decide +kernel
theorem dX4_init_26 : decode cX4_init 26 = .ok (.iload_n 3, 1) := by decide +kernel
theorem dX4_init_27 : decode cX4_init 27 = .ok (.putfield 20, 3) := by decide +kernel
theorem dX4_init_30 : decode cX4_init 30 = .ok (.return_, 1) := by decide +kernel
theorem dX4_lookFrom_0 : decode cX4_lookFrom 0 = .ok (.aload 4, 2) := by decide +kernel
theorem dX4_lookFrom_2 : decode cX4_lookFrom 2 = .ok (.aload_n 0, 1) := by decide +kernel
theorem dX4_lookFrom_3 : decode cX4_lookFrom 3 = .ok (.getfield 20, 3) := by decide +kernel
theorem dX4_lookFrom_6 : decode cX4_lookFrom 6 = .ok (.invokevirtual 23, 3) := by decide +kernel
theorem dX4_lookFrom_9 : decode cX4_lookFrom 9 = .ok (.aload 4, 2) := by decide +kernel
theorem dX4_lookFrom_11 : decode cX4_lookFrom 11 = .ok (.aload_n 0, 1) := by decide +kernel
theorem dX4_lookFrom_12 : decode cX4_lookFrom 12 = .ok (.getfield 17, 3) := by decide +kernel
theorem dX4_lookFrom_15 : decode cX4_lookFrom 15 = .ok (.iload_n 1, 1) := by decide +kernel
theorem dX4_lookFrom_16 : decode cX4_lookFrom 16 = .ok (.iload_n 2, 1) := by decide +kernel
theorem dX4_lookFrom_17 : decode cX4_lookFrom 17 = .ok (.iload_n 3, 1) := by decide +kernel
theorem dX4_lookFrom_18 : decode cX4_lookFrom 18 = .ok (.invokevirtual 28, 3) := by decide +kernel
theorem dX4_lookFrom_21 : decode cX4_lookFrom 21 = .ok (.aload 4, 2) := by decide +kernel
theorem dX4_lookFrom_23 : decode cX4_lookFrom 23 = .ok (.aload_n 0, 1) := by decide +kernel
theorem dX4_lookFrom_24 : decode cX4_lookFrom 24 = .ok (.getfield 11, 3) := by decide +kernel
theorem dX4_lookFrom_27 : decode cX4_lookFrom 27 = .ok (.iload_n 1, 1) := by decide +kernel
theorem dX4_lookFrom_28 : decode cX4_lookFrom 28 = .ok (.iload_n 2, 1) := by decide +kernel
theorem dX4_lookFrom_29 : decode cX4_lookFrom 29 = .ok (.iload_n 3, 1) := by decide +kernel
theorem dX4_lookFrom_30 : decode cX4_lookFrom 30 = .ok (.invokevirtual 28, 3) := by decide +kernel
theorem dX4_lookFrom_33 : decode cX4_lookFrom 33 = .ok (.return_, 1) := by decide +kernel
theorem dX5_init_0 : decode cX5_init 0 = .ok (.aload_n 0, 1) := by decide +kernel
theorem dX5_init_1 : decode cX5_init 1 = .ok (.aload_n 1, 1) := by decide +kernel
theorem dX5_init_2 : decode cX5_init 2 = .ok (.getfield 1, 3) := by decide +kernel
theorem dX5_init_5 : decode cX5_init 5 = .ok (.iconst 1, 1) := by decide +kernel
theorem dX5_init_6 : decode cX5_init 6 = .ok (.iadd, 1) := by decide +kernel
theorem dX5_init_7 : decode cX5_init 7 = .ok (.invokespecial 7, 3) := by decide +kernel
theorem dX5_init_10 : decode cX5_init 10 = .ok (.aload_n 0, 1) := by decide +kernel
theorem dX5_init_11 : decode cX5_init 11 = .ok (.aload_n 1, 1) := by decide +kernel
theorem dX5_init_12 : decode cX5_init 12 = .ok (.putfield 11, 3) := by decide +kernel
theorem dX5_init_15 : decode cX5_init 15 = .ok (.aload_n 0, 1) := by decide +kernel
theorem dX5_init_16 : decode cX5_init 16 = .ok (.iload_n 2, 1) := by decide +kernel
theorem dX5_init_17 : decode cX5_init 17 = .ok (.putfield 17, 3) := by decide +kernel
theorem dX5_init_20 : decode cX5_init 20 = .ok (.aload_n 0, 1) := by decide +kernel
theorem dX5_init_21 : decode cX5_init 21 = .ok (.iload_n 3, 1) := by decide +kernel
theorem dX5_init_22 : decode cX5_init 22 = .ok (.putfield 20, 3) := by decide +kernel
theorem dX5_init_25 : decode cX5_init 25 = .ok (.aload_n 0, 1) := by decide +kernel
theorem dX5_init_26 : decode cX5_init 26 = .ok (.iload 4, 2) := by decide +kernel
theorem dX5_init_28 : decode cX5_init 28 = .ok (.putfield 23, 3) := by decide +kernel
theorem dX5_init_31 : decode cX5_init 31 = .ok (.return_, 1) := by decide +kernel
theorem dX5_lookFrom_0 : decode cX5_lookFrom 0 = .ok (.aload 4, 2) := by decide +kernel
theorem dX5_lookFrom_2 : decode cX5_lookFrom 2 = .ok (.aload_n 0, 1) := by decide +kernel
theorem dX5_lookFrom_3 : decode cX5_lookFrom 3 = .ok (.getfield 11, 3) := by decide +kernel
theorem dX5_lookFrom_6 : decode cX5_lookFrom 6 = .ok (.iload_n 1, 1) := by decide +kernel
theorem dX5_lookFrom_7 : decode cX5_lookFrom 7 = .ok (.aload_n 0, 1) := by decide +kernel
theorem dX5_lookFrom_8 : decode cX5_lookFrom 8 = .ok (.getfield 17, 3) := by decide +kernel
theorem dX5_lookFrom_11 : decode cX5_lookFrom 11 = .ok (.isub, 1) := by decide +kernel
theorem dX5_lookFrom_12 : decode cX5_lookFrom 12 = .ok (.iload_n 2, 1) := by decide +kernel
theorem dX5_lookFrom_13 : decode cX5_lookFrom 13 = .ok (.aload_n 0, 1) := by decide +kernel
theorem dX5_lookFrom_14 : decode cX5_lookFrom 14 = .ok (.getfield 20, 3) := by decide +kernel
theorem dX5_lookFrom_17 : decode cX5_lookFrom 17 = .ok (.isub, 1) := by decide +kernel
theorem dX5_lookFrom_18 : decode cX5_lookFrom 18 = .ok (.iload_n 3, 1) := by decide +kernel
theorem dX5_lookFrom_19 : decode cX5_lookFrom 19 = .ok (.aload_n 0, 1) := by decide +kernel
theorem dX5_lookFrom_20 : decode cX5_lookFrom 20 = .ok (.getfield 23, 3) := by decide +kernel
theorem dX5_lookFrom_23 : decode cX5_lookFrom 23 = .ok (.iadd, 1) := by decide +kernel
theorem dX5_lookFrom_24 : decode cX5_lookFrom 24 = .ok (.invokevirtual 26, 3) := by decide +kernel
theorem dX5_lookFrom_27 : decode cX5_lookFrom 27 = .ok (.return_, 1) := by decide +kernel
theorem dX6_init_0 : decode cX6_init 0 = .ok (.aload_n 0, 1) := by decide +kernel
theorem dX6_init_1 : decode cX6_init 1 = .ok (.iconst 1, 1) := by decide +kernel
theorem dX6_init_2 : decode cX6_init 2 = .ok (.invokespecial 1, 3) := by decide +kernel
theorem dX6_init_5 : decode cX6_init 5 = .ok (.aload_n 0, 1) := by decide +kernel
theorem dX6_init_6 : decode cX6_init 6 = .ok (.iload_n 1, 1) := by decide +kernel
theorem dX6_init_7 : decode cX6_init 7 = .ok (.putfield 7, 3) := by decide +kernel
theorem dX6_init_10 : decode cX6_init 10 = .ok (.aload_n 0, 1) := by decide +kernel
theorem dX6_init_11 : decode cX6_init 11 = .ok (.iload_n 2, 1) := by decide +kernel
theorem dX6_init_12 : decode cX6_init 12 = .ok (.putfield 13, 3) := by decide +kernel
theorem dX6_init_15 : decode cX6_init 15 = .ok (.aload_n 0, 1) := by decide +kernel
theorem dX6_init_16 : decode cX6_init 16 = .ok (.iload_n 3, 1) := by decide +kernel
theorem dX6_init_17 : decode cX6_init 17 = .ok (.putfield 16, 3) := by decide +kernel
theorem dX6_init_20 : decode cX6_init 20 = .ok (.aload_n 0, 1) := by decide +kernel
theorem dX6_init_21 : decode cX6_init 21 = .ok (.iload 4, 2) := by decide +kernel
theorem dX6_init_23 : decode cX6_init 23 = .ok (.putfield 19, 3) := by decide +kernel
theorem dX6_init_26 : decode cX6_init 26 = .ok (.aload_n 0, 1) := by decide +kernel
theorem dX6_init_27 : decode cX6_init 27 = .ok (.iload 5, 2) := by decide +kernel
theorem dX6_init_29 : decode cX6_init 29 = .ok (.putfield 22, 3) := by decide +kernel
theorem dX6_init_32 : decode cX6_init 32 = .ok (.return_, 1) := by decide +kernel
theorem dX6_lookFrom_0 : decode cX6_lookFrom 0 = .ok (.iload_n 1, 1) := by decide +kernel
theorem dX6_lookFrom_1 : decode cX6_lookFrom 1 = .ok (.aload_n 0, 1) := by decide +kernel
theorem dX6_lookFrom_2 : decode cX6_lookFrom 2 = .ok (.getfield 7, 3) := by decide +kernel
theorem dX6_lookFrom_5 : decode cX6_lookFrom 5 = .ok (.isub, 1) := by decide +kernel
theorem dX6_lookFrom_6 : decode cX6_lookFrom 6 = .ok (.i2l, 1) := by decide +kernel
theorem dX6_lookFrom_7 : decode cX6_lookFrom 7 = .ok (.invokestatic 25, 3) := by decide +kernel
theorem dX6_lookFrom_10 : decode cX6_lookFrom 10 = .ok (.iload_n 2, 1) := by decide +kernel
theorem dX6_lookFrom_11 : decode cX6_lookFrom 11 = .ok (.aload_n 0, 1) := by decide +kernel
theorem dX6_lookFrom_12 : decode cX6_lookFrom 12 = .ok (.getfield 13, 3) := by decide +kernel
theorem dX6_lookFrom_15 : decode cX6_lookFrom 15 = .ok (.isub, 1) := by decide +kernel
theorem dX6_lookFrom_16 : decode cX6_lookFrom 16 = .ok (.i2l, 1) := by decide +kernel
theorem dX6_lookFrom_17 : decode cX6_lookFrom 17 = .ok (.invokestatic 25, 3) := by decide +kernel
theorem dX6_lookFrom_20 : decode cX6_lookFrom 20 = .ok (.ladd, 1) := by decide +kernel
theorem dX6_lookFrom_21 : decode cX6_lookFrom 21 = .ok (.aload_n 0, 1) := by decide +kernel
theorem dX6_lookFrom_22 : decode cX6_lookFrom 22 = .ok (.getfield 16, 3) := by decide +kernel
theorem dX6_lookFrom_25 : decode cX6_lookFrom 25 = .ok (.i2l, 1) := by decide +kernel
theorem dX6_lookFrom_26 : decode cX6_lookFrom 26 = .ok (.invokestatic 25, 3) := by decide +kernel
theorem dX6_lookFrom_29 : decode cX6_lookFrom 29 = .ok (.lcmp, 1) := by decide +kernel
theorem dX6_lookFrom_30 : decode cX6_lookFrom 30 = .ok (.ifCond .gt 23, 3) := by decide +kernel
theorem dX6_lookFrom_33 : decode cX6_lookFrom 33 = .ok (.aload 4, 2) := by decide +kernel
theorem dX6_lookFrom_35 : decode cX6_lookFrom 35 = .ok (.aload_n 0, 1) := by decide +kernel
theorem dX6_lookFrom_36 : decode cX6_lookFrom 36 = .ok (.getfield 19, 3) := by decide +kernel
theorem dX6_lookFrom_39 : decode cX6_lookFrom 39 = .ok (.iload_n 3, 1) := by decide +kernel
theorem dX6_lookFrom_40 : decode cX6_lookFrom 40 = .ok (.iadd, 1) := by decide +kernel
theorem dX6_lookFrom_41 : decode cX6_lookFrom 41 = .ok (.aload_n 0, 1) := by decide +kernel
theorem dX6_lookFrom_42 : decode cX6_lookFrom 42 = .ok (.getfield 22, 3) := by decide +kernel
theorem dX6_lookFrom_45 : decode cX6_lookFrom 45 = .ok (.iload_n 3, 1) := by decide +kernel
theorem dX6_lookFrom_46 : decode cX6_lookFrom 46 = .ok (.iadd, 1) := by decide +kernel
theorem dX6_lookFrom_47 : decode cX6_lookFrom 47 = .ok (.invokevirtual 31, 3) := by decide +kernel
theorem dX6_lookFrom_50 : decode cX6_lookFrom 50 = .ok (.goto 8, 3) := by decide +kernel
theorem dX6_lookFrom_53 : decode cX6_lookFrom 53 = .ok (.aload 4, 2) := by decide +kernel
theorem dX6_lookFrom_55 : decode cX6_lookFrom 55 = .ok (.invokevirtual 37, 3) := by decide +kernel
theorem dX6_lookFrom_58 : decode cX6_lookFrom 58 = .ok (.return_, 1) := by decide +kernel
theorem dX7_init_0 : decode cX7_init 0 = .ok (.aload_n 0, 1) := by decide +kernel
theorem dX7_init_1 : decode cX7_init 1 = .ok (.invokespecial 3, 3) := by decide +kernel
theorem dX7_init_4 : decode cX7_init 4 = .ok (.aload_n 0, 1) := by decide +kernel
theorem dX7_init_5 : decode cX7_init 5 = .ok (.bipush 100, 2) := by decide +kernel
theorem dX7_init_7 : decode cX7_init 7 = .ok (.newarray .int, 2) := by decide +kernel
theorem dX7_init_9 : decode cX7_init 9 = .ok (.putfield 9, 3) := by decide +kernel
theorem dX7_init_12 : decode cX7_init 12 = .ok (.aload_n 0, 1) := by decide +kernel
theorem dX7_init_13 : decode cX7_init 13 = .ok (.iconst 0, 1) := by decide +kernel
theorem dX7_init_14 : decode cX7_init 14 = .ok (.putfield 15, 3) := by decide +kernel
theorem dX7_init_17 : decode cX7_init 17 = .ok (.return_, 1) := by decide +kernel
theorem dX7_clear_0 : decode cX7_clear 0 = .ok (.aload_n 0, 1) := by decide +kernel
theorem dX7_clear_1 : decode cX7_clear 1 = .ok (.iconst 0, 1) := by decide +kernel
theorem dX7_clear_2 : decode cX7_clear 2 = .ok (.putfield 15, 3) := by decide +kernel
theorem dX7_clear_5 : decode cX7_clear 5 = .ok (.return_, 1) := by decide +kernel
theorem dX7_copyFrom_0 : decode cX7_copyFrom 0 = .ok (.aload_n 0, 1) := by decide +kernel
theorem dX7_copyFrom_1 : decode cX7_copyFrom 1 = .ok (.iload_n 2, 1) := by decide +kernel
theorem dX7_copyFrom_2 : decode cX7_copyFrom 2 = .ok (.aload_n 1, 1) := by decide +kernel
theorem dX7_copyFrom_3 : decode cX7_copyFrom 3 = .ok (.arraylength, 1) := by decide +kernel
theorem dX7_copyFrom_4 : decode cX7_copyFrom 4 = .ok (.bipush 100, 2) := by decide +kernel
theorem dX7_copyFrom_6 : decode cX7_copyFrom 6 = .ok (.invokestatic 19, 3) := by decide +kernel
theorem dX7_copyFrom_9 : decode cX7_copyFrom 9 = .ok (.invokestatic 19, 3) := by decide +kernel
theorem dX7_copyFrom_12 : decode cX7_copyFrom 12 = .ok (.putfield 15, 3) := by decide +kernel
theorem dX7_copyFrom_15 : decode cX7_copyFrom 15 = .ok (.iconst 0, 1) := by decide +kernel
theorem dX7_copyFrom_16 : decode cX7_copyFrom 16 = .ok (.istore_n 3, 1) := by decide +kernel
theorem dX7_copyFrom_17 : decode cX7_copyFrom 17 = .ok (.iload_n 3, 1) := by decide +kernel
theorem dX7_copyFrom_18 : decode cX7_copyFrom 18 = .ok (.aload_n 0, 1) := by decide +kernel
theorem dX7_copyFrom_19 : decode cX7_copyFrom 19 = .ok (.getfield 15, 3) := by decide +kernel
theorem dX7_copyFrom_22 : decode cX7_copyFrom 22 = .ok (.if_icmp .ge 18, 3) := by decide +kernel
theorem dX7_copyFrom_25 : decode cX7_copyFrom 25 = .ok (.aload_n 0, 1) := by decide +kernel
theorem dX7_copyFrom_26 : decode cX7_copyFrom 26 = .ok (.getfield 9, 3) := by decide +kernel
theorem dX7_copyFrom_29 : decode cX7_copyFrom 29 = .ok (.iload_n 3, 1) := by decide +kernel
theorem dX7_copyFrom_30 : decode cX7_copyFrom 30 = .ok (.aload_n 1, 1) := by decide +kernel
theorem dX7_copyFrom_31 : decode cX7_copyFrom 31 = .ok (.iload_n 3, 1) := by decide +kernel
theorem dX7_copyFrom_32 : decode cX7_copyFrom 32 = .ok (.iaload, 1) := by decide +kernel
theorem dX7_copyFrom_33 : decode cX7_copyFrom 33 = .ok (.iastore, 1) := by decide +kernel
theorem dX7_copyFrom_34 : decode cX7_copyFrom 34 = .ok (.iinc 3 1, 3) := by decide +kernel
theorem dX7_copyFrom_37 : decode cX7_copyFrom 37 = .ok (.goto (-20), 3) := by decide +kernel
theorem dX7_copyFrom_40 : decode cX7_copyFrom 40 = .ok (.return_, 1) := by decide +kernel
theorem dX7_runCount_0 : decode cX7_runCount 0 = .ok (.aload_n 0, 1) := by decide +kernel
theorem dX7_runCount_1 : decode cX7_runCount 1 = .ok (.getfield 15, 3) := by decide +kernel
theorem dX7_runCount_4 : decode cX7_runCount 4 = .ok (.iconst 2, 1) := by decide +kernel
theorem dX7_runCount_5 : decode cX7_runCount 5 = .ok (.idiv, 1) := by decide +kernel
theorem dX7_runCount_6 : decode cX7_runCount 6 = .ok (.ireturn, 1) := by decide +kernel
theorem dX7_firstOf_0 : decode cX7_firstOf 0 = .ok (.iload_n 1, 1) := by decide +kernel
theorem dX7_firstOf_1 : decode cX7_firstOf 1 = .ok (.ifCond .lt 11, 3) := by decide +kernel
theorem dX7_firstOf_4 : decode cX7_firstOf 4 = .ok (.iload_n 1, 1) := by decide +kernel
theorem dX7_firstOf_5 : decode cX7_firstOf 5 = .ok (.aload_n 0, 1) := by decide +kernel
theorem dX7_firstOf_6 : decode cX7_firstOf 6 = .ok (.invokevirtual 25, 3) := by decide +kernel
theorem dX7_firstOf_9 : decode cX7_firstOf 9 = .ok (.if_icmp .lt 7, 3) := by decide +kernel
theorem dX7_firstOf_12 : decode cX7_firstOf 12 = .ok (.iconst 0, 1) := by decide +kernel
theorem dX7_firstOf_13 : decode cX7_firstOf 13 = .ok (.goto 11, 3) := by decide +kernel
theorem dX7_firstOf_16 : decode cX7_firstOf 16 = .ok (.aload_n 0, 1) := by decide +kernel
theorem dX7_firstOf_17 : decode cX7_firstOf 17 = .ok (.getfield 9, 3) := by decide +kernel
theorem dX7_firstOf_20 : decode cX7_firstOf 20 = .ok (.iconst 2, 1) := by decide +kernel
theorem dX7_firstOf_21 : decode cX7_firstOf 21 = .ok (.iload_n 1, 1) := by decide +kernel
theorem dX7_firstOf_22 : decode cX7_firstOf 22 = .ok (.imul, 1) := by decide +kernel
theorem dX7_firstOf_23 : decode cX7_firstOf 23 = .ok (.iaload, 1) := by decide +kernel
theorem dX7_firstOf_24 : decode cX7_firstOf 24 = .ok (.ireturn, 1) := by decide +kernel
theorem dX7_lastOf_0 : decode cX7_lastOf 0 = .ok (.iload_n 1, 1) := by decide +kernel
theorem dX7_lastOf_1 : decode cX7_lastOf 1 = .ok (.ifCond .lt 11, 3) := by decide +kernel
theorem dX7_lastOf_4 : decode cX7_lastOf 4 = .ok (.iload_n 1, 1) := by decide +kernel
theorem dX7_lastOf_5 : decode cX7_lastOf 5 = .ok (.aload_n 0, 1) := by decide +kernel
theorem dX7_lastOf_6 : decode cX7_lastOf 6 = .ok (.invokevirtual 25, 3) := by decide +kernel
theorem dX7_lastOf_9 : decode cX7_lastOf 9 = .ok (.if_icmp .lt 7, 3) := by decide +kernel
theorem dX7_lastOf_12 : decode cX7_lastOf 12 = .ok (.iconst 0, 1) := by decide +kernel
theorem dX7_lastOf_13 : decode cX7_lastOf 13 = .ok (.goto 15, 3) := by decide +kernel
theorem dX7_lastOf_16 : decode cX7_lastOf 16 = .ok (.aload_n 0, 1) := by decide +kernel
theorem dX7_lastOf_17 : decode cX7_lastOf 17 = .ok (.getfield 9, 3) := by decide +kernel
theorem dX7_lastOf_20 : decode cX7_lastOf 20 = .ok (.iconst 2, 1) := by decide +kernel
theorem dX7_lastOf_21 : decode cX7_lastOf 21 = .ok (.iload_n 1, 1) := by decide +kernel
theorem dX7_lastOf_22 : decode cX7_lastOf 22 = .ok (.imul, 1) := by decide +kernel
theorem dX7_lastOf_23 : decode cX7_lastOf 23 = .ok (.iconst 1, 1) := by decide +kernel
theorem dX7_lastOf_24 : decode cX7_lastOf 24 = .ok (.iadd, 1) := by decide +kernel
theorem dX7_lastOf_25 : decode cX7_lastOf 25 = .ok (.iaload, 1) := by decide +kernel
theorem dX7_lastOf_26 : decode cX7_lastOf 26 = .ok (.iconst 1, 1) := by decide +kernel
theorem dX7_lastOf_27 : decode cX7_lastOf 27 = .ok (.isub, 1) := by decide +kernel
theorem dX7_lastOf_28 : decode cX7_lastOf 28 = .ok (.ireturn, 1) := by decide +kernel
theorem dX7_countFrom_0 : decode cX7_countFrom 0 = .ok (.lconst 0, 1) := by decide +kernel
theorem dX7_countFrom_1 : decode cX7_countFrom 1 = .ok (.lstore_n 3, 1) := by decide +kernel
theorem dX7_countFrom_2 : decode cX7_countFrom 2 = .ok (.iconst 0, 1) := by decide +kernel
theorem dX7_countFrom_3 : decode cX7_countFrom 3 = .ok (.istore 5, 2) := by decide +kernel
theorem dX7_countFrom_5 : decode cX7_countFrom 5 = .ok (.iload 5, 2) := by decide +kernel
theorem dX7_countFrom_7 : decode cX7_countFrom 7 = .ok (.aload_n 0, 1) := by decide +kernel
theorem dX7_countFrom_8 : decode cX7_countFrom 8 = .ok (.invokevirtual 25, 3) := by decide +kernel
theorem dX7_countFrom_11 : decode cX7_countFrom 11 = .ok (.if_icmp .ge 53, 3) := by decide +kernel
theorem dX7_countFrom_14 : decode cX7_countFrom 14 = .ok (.iload_n 1, 1) := by decide +kernel
theorem dX7_countFrom_15 : decode cX7_countFrom 15 = .ok (.aload_n 0, 1) := by decide +kernel
theorem dX7_countFrom_16 : decode cX7_countFrom 16 = .ok (.iload 5, 2) := by decide +kernel
theorem dX7_countFrom_18 : decode cX7_countFrom 18 = .ok (.invokevirtual 29, 3) := by decide +kernel
theorem dX7_countFrom_21 : decode cX7_countFrom 21 = .ok (.invokestatic 33, 3) := by decide +kernel
theorem dX7_countFrom_24 : decode cX7_countFrom 24 = .ok (.i2l, 1) := by decide +kernel
theorem dX7_countFrom_25 : decode cX7_countFrom 25 = .ok (.lstore 6, 2) := by decide +kernel
theorem dX7_countFrom_27 : decode cX7_countFrom 27 = .ok (.iload_n 2, 1) := by decide +kernel
theorem dX7_countFrom_28 : decode cX7_countFrom 28 = .ok (.aload_n 0, 1) := by decide +kernel
theorem dX7_countFrom_29 : decode cX7_countFrom 29 = .ok (.iload 5, 2) := by decide +kernel
theorem dX7_countFrom_31 : decode cX7_countFrom 31 = .ok (.invokevirtual 36, 3) := by decide +kernel
theorem dX7_countFrom_34 : decode cX7_countFrom 34 = .ok (.invokestatic 19, 3) := by decide +kernel
theorem dX7_countFrom_37 : decode cX7_countFrom 37 = .ok (.i2l, 1) := by decide +kernel
theorem dX7_countFrom_38 : decode cX7_countFrom 38 = .ok (.lstore 8, 2) := by decide +kernel
theorem dX7_countFrom_40 : decode cX7_countFrom 40 = .ok (.lload 6, 2) := by decide +kernel
theorem dX7_countFrom_42 : decode cX7_countFrom 42 = .ok (.lload 8, 2) := by decide +kernel
theorem dX7_countFrom_44 : decode cX7_countFrom 44 = .ok (.lcmp, 1) := by decide +kernel
theorem dX7_countFrom_45 : decode cX7_countFrom 45 = .ok (.ifCond .gt 13, 3) := by decide +kernel
theorem dX7_countFrom_48 : decode cX7_countFrom 48 = .ok (.lload_n 3, 1) := by decide +kernel
theorem dX7_countFrom_49 : decode cX7_countFrom 49 = .ok (.lload 8, 2) := by decide +kernel
theorem dX7_countFrom_51 : decode cX7_countFrom 51 = .ok (.lload 6, 2) := by decide +kernel
theorem dX7_countFrom_53 : decode cX7_countFrom 53 = .ok (.lsub, 1) := by decide +kernel
theorem dX7_countFrom_54 : decode cX7_countFrom 54 = .ok (.lconst 1, 1) := by decide +kernel
theorem dX7_countFrom_55 : decode cX7_countFrom 55 = .ok (.ladd, 1) := by decide +kernel
theorem dX7_countFrom_56 : decode cX7_countFrom 56 = .ok (.ladd, 1) := by decide +kernel
theorem dX7_countFrom_57 : decode cX7_countFrom 57 = .ok (.lstore_n 3, 1) := by decide +kernel
theorem dX7_countFrom_58 : decode cX7_countFrom 58 = .ok (.iinc 5 1, 3) := by decide +kernel
theorem dX7_countFrom_61 : decode cX7_countFrom 61 = .ok (.goto (-56), 3) := by decide +kernel
theorem dX7_countFrom_64 : decode cX7_countFrom 64 = .ok (.lload_n 3, 1) := by decide +kernel
theorem dX7_countFrom_65 : decode cX7_countFrom 65 = .ok (.lreturn, 1) := by decide +kernel
theorem dX7_afterGreatest_0 : decode cX7_afterGreatest 0 = .ok (.iconst 0, 1) := by decide +kernel
theorem dX7_afterGreatest_1 : decode cX7_afterGreatest 1 = .ok (.istore_n 1, 1) := by decide +kernel
theorem dX7_afterGreatest_2 : decode cX7_afterGreatest 2 = .ok (.iconst 0, 1) := by decide +kernel
theorem dX7_afterGreatest_3 : decode cX7_afterGreatest 3 = .ok (.istore_n 2, 1) := by decide +kernel
theorem dX7_afterGreatest_4 : decode cX7_afterGreatest 4 = .ok (.iload_n 2, 1) := by decide +kernel
theorem dX7_afterGreatest_5 : decode cX7_afterGreatest 5 = .ok (.aload_n 0, 1) := by decide +kernel
theorem dX7_afterGreatest_6 : decode cX7_afterGreatest 6 = .ok (.invokevirtual 25, 3) := by decide +kernel
theorem dX7_afterGreatest_9 : decode cX7_afterGreatest 9 = .ok (.if_icmp .ge 38, 3) := by decide +kernel
theorem dX7_afterGreatest_12 : decode cX7_afterGreatest 12 = .ok (.sipush 999, 3) := by decide +kernel
theorem dX7_afterGreatest_15 : decode cX7_afterGreatest 15 = .ok (.aload_n 0, 1) := by decide +kernel
theorem dX7_afterGreatest_16 : decode cX7_afterGreatest 16 = .ok (.iload_n 2, 1) := by decide +kernel
theorem dX7_afterGreatest_17 : decode cX7_afterGreatest 17 = .ok (.invokevirtual 36, 3) := by decide +kernel
theorem dX7_afterGreatest_20 : decode cX7_afterGreatest 20 = .ok (.invokestatic 19, 3) := by decide +kernel
theorem dX7_afterGreatest_23 : decode cX7_afterGreatest 23 = .ok (.istore_n 3, 1) := by decide +kernel
theorem dX7_afterGreatest_24 : decode cX7_afterGreatest 24 = .ok (.iload_n 3, 1) := by decide +kernel
theorem dX7_afterGreatest_25 : decode cX7_afterGreatest 25 = .ok (.ifCond .lt 16, 3) := by decide +kernel
theorem dX7_afterGreatest_28 : decode cX7_afterGreatest 28 = .ok (.iload_n 3, 1) := by decide +kernel
theorem dX7_afterGreatest_29 : decode cX7_afterGreatest 29 = .ok (.aload_n 0, 1) := by decide +kernel
theorem dX7_afterGreatest_30 : decode cX7_afterGreatest 30 = .ok (.iload_n 2, 1) := by decide +kernel
theorem dX7_afterGreatest_31 : decode cX7_afterGreatest 31 = .ok (.invokevirtual 29, 3) := by decide +kernel
theorem dX7_afterGreatest_34 : decode cX7_afterGreatest 34 = .ok (.if_icmp .lt 7, 3) := by decide +kernel
theorem dX7_afterGreatest_37 : decode cX7_afterGreatest 37 = .ok (.iload_n 3, 1) := by decide +kernel
theorem dX7_afterGreatest_38 : decode cX7_afterGreatest 38 = .ok (.iconst 1, 1) := by decide +kernel
theorem dX7_afterGreatest_39 : decode cX7_afterGreatest 39 = .ok (.iadd, 1) := by decide +kernel
theorem dX7_afterGreatest_40 : decode cX7_afterGreatest 40 = .ok (.istore_n 1, 1) := by decide +kernel
theorem dX7_afterGreatest_41 : decode cX7_afterGreatest 41 = .ok (.iinc 2 1, 3) := by decide +kernel
theorem dX7_afterGreatest_44 : decode cX7_afterGreatest 44 = .ok (.goto (-40), 3) := by decide +kernel
theorem dX7_afterGreatest_47 : decode cX7_afterGreatest 47 = .ok (.iload_n 1, 1) := by decide +kernel
