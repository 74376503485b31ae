theorem dX7_afterGreatest_48 : decode cX7_afterGreatest 48 = .ok (.ireturn, 1) := by decide +kernel
theorem dX8_init_0 : decode cX8_init 0 = .ok (.aload_n 0, 1) := by decide +kernel
theorem dX8_init_1 : decode cX8_init 1 = .ok (.invokespecial 1, 3) := by decide +kernel
theorem dX8_init_4 : decode cX8_init 4 = .ok (.aload_n 0, 1) := by decide +kernel
theorem dX8_init_5 : decode cX8_init 5 = .ok (.iload_n 1, 1) := by decide +kernel
theorem dX8_init_6 : decode cX8_init 6 = .ok (.putfield 7, 3) := by decide +kernel
theorem dX8_init_9 : decode cX8_init 9 = .ok (.return_, 1) := by decide +kernel
theorem dX9_init_0 : decode cX9_init 0 = .ok (.aload_n 0, 1) := by decide +kernel
theorem dX9_init_1 : decode cX9_init 1 = .ok (.aload_n 1, 1) := by decide +kernel
theorem dX9_init_2 : decode cX9_init 2 = .ok (.getfield 1, 3) := by decide +kernel
theorem dX9_init_5 : decode cX9_init 5 = .ok (.iconst 1, 1) := by decide +kernel
theorem dX9_init_6 : decode cX9_init 6 = .ok (.iadd, 1) := by decide +kernel
theorem dX9_init_7 : decode cX9_init 7 = .ok (.invokespecial 7, 3) := by decide +kernel
theorem dX9_init_10 : decode cX9_init 10 = .ok (.aload_n 0, 1) := by decide +kernel
theorem dX9_init_11 : decode cX9_init 11 = .ok (.aload_n 1, 1) := by decide +kernel
theorem dX9_init_12 : decode cX9_init 12 = .ok (.putfield 11, 3) := by decide +kernel
theorem dX9_init_15 : decode cX9_init 15 = .ok (.return_, 1) := by decide +kernel
theorem dX9_lookFrom_0 : decode cX9_lookFrom 0 = .ok (.aload 4, 2) := by decide +kernel
theorem dX9_lookFrom_2 : decode cX9_lookFrom 2 = .ok (.aload_n 0, 1) := by decide +kernel
theorem dX9_lookFrom_3 : decode cX9_lookFrom 3 = .ok (.getfield 11, 3) := by decide +kernel
theorem dX9_lookFrom_6 : decode cX9_lookFrom 6 = .ok (.iload_n 2, 1) := by decide +kernel
theorem dX9_lookFrom_7 : decode cX9_lookFrom 7 = .ok (.iload_n 1, 1) := by decide +kernel
theorem dX9_lookFrom_8 : decode cX9_lookFrom 8 = .ok (.ineg, 1) := by decide +kernel
theorem dX9_lookFrom_9 : decode cX9_lookFrom 9 = .ok (.iload_n 3, 1) := by decide +kernel
theorem dX9_lookFrom_10 : decode cX9_lookFrom 10 = .ok (.invokevirtual 17, 3) := by decide +kernel
theorem dX9_lookFrom_13 : decode cX9_lookFrom 13 = .ok (.return_, 1) := by decide +kernel
theorem dX10_init_0 : decode cX10_init 0 = .ok (.aload_n 0, 1) := by decide +kernel
theorem dX10_init_1 : decode cX10_init 1 = .ok (.invokespecial 3, 3) := by decide +kernel
theorem dX10_init_4 : decode cX10_init 4 = .ok (.aload_n 0, 1) := by decide +kernel
theorem dX10_init_5 : decode cX10_init 5 = .ok (.bipush 100, 2) := by decide +kernel
theorem dX10_init_7 : decode cX10_init 7 = .ok (.anewarray 11, 3) := by decide +kernel
theorem dX10_init_10 : decode cX10_init 10 = .ok (.putfield 13, 3) := by decide +kernel
theorem dX10_init_13 : decode cX10_init 13 = .ok (.aload_n 0, 1) := by decide +kernel
theorem dX10_init_14 : decode cX10_init 14 = .ok (.bipush 100, 2) := by decide +kernel
theorem dX10_init_16 : decode cX10_init 16 = .ok (.newarray .int, 2) := by decide +kernel
theorem dX10_init_18 : decode cX10_init 18 = .ok (.putfield 17, 3) := by decide +kernel
theorem dX10_init_21 : decode cX10_init 21 = .ok (.aload_n 0, 1) := by decide +kernel
theorem dX10_init_22 : decode cX10_init 22 = .ok (.bipush 100, 2) := by decide +kernel
theorem dX10_init_24 : decode cX10_init 24 = .ok (.newarray .int, 2) := by decide +kernel
theorem dX10_init_26 : decode cX10_init 26 = .ok (.putfield 21, 3) := by decide +kernel
theorem dX10_init_29 : decode cX10_init 29 = .ok (.aload_n 0, 1) := by decide +kernel
theorem dX10_init_30 : decode cX10_init 30 = .ok (.bipush 100, 2) := by decide +kernel
theorem dX10_init_32 : decode cX10_init 32 = .ok (.newarray .int, 2) := by decide +kernel
theorem dX10_init_34 : decode cX10_init 34 = .ok (.putfield 24, 3) := by decide +kernel
theorem dX10_init_37 : decode cX10_init 37 = .ok (.aload_n 0, 1) := by decide +kernel
theorem dX10_init_38 : decode cX10_init 38 = .ok (.bipush 100, 2) := by decide +kernel
theorem dX10_init_40 : decode cX10_init 40 = .ok (.newarray .int, 2) := by decide +kernel
theorem dX10_init_42 : decode cX10_init 42 = .ok (.putfield 27, 3) := by decide +kernel
theorem dX10_init_45 : decode cX10_init 45 = .ok (.aload_n 0, 1) := by decide +kernel
theorem dX10_init_46 : decode cX10_init 46 = .ok (.iconst 0, 1) := by decide +kernel
theorem dX10_init_47 : decode cX10_init 47 = .ok (.putfield 30, 3) := by decide +kernel
theorem dX10_init_50 : decode cX10_init 50 = .ok (.aload_n 0, 1) := by decide +kernel
theorem dX10_init_51 : decode cX10_init 51 = .ok (.new 34, 3) := by decide +kernel
theorem dX10_init_54 : decode cX10_init 54 = .ok (.dup, 1) := by decide +kernel
theorem dX10_init_55 : decode cX10_init 55 = .ok (.invokespecial 36, 3) := by decide +kernel
theorem dX10_init_58 : decode cX10_init 58 = .ok (.putfield 37, 3) := by decide +kernel
theorem dX10_init_61 : decode cX10_init 61 = .ok (.return_, 1) := by decide +kernel
theorem dX10_over_0 : decode cX10_over 0 = .ok (.aload_n 0, 1) := by decide +kernel
theorem dX10_over_1 : decode cX10_over 1 = .ok (.iconst 0, 1) := by decide +kernel
theorem dX10_over_2 : decode cX10_over 2 = .ok (.putfield 30, 3) := by decide +kernel
theorem dX10_over_5 : decode cX10_over 5 = .ok (.aload_n 0, 1) := by decide +kernel
theorem dX10_over_6 : decode cX10_over 6 = .ok (.getfield 37, 3) := by decide +kernel
theorem dX10_over_9 : decode cX10_over 9 = .ok (.invokevirtual 41, 3) := by decide +kernel
theorem dX10_over_12 : decode cX10_over 12 = .ok (.aload_n 0, 1) := by decide +kernel
theorem dX10_over_13 : decode cX10_over 13 = .ok (.aload_n 1, 1) := by decide +kernel
theorem dX10_over_14 : decode cX10_over 14 = .ok (.iload_n 2, 1) := by decide +kernel
theorem dX10_over_15 : decode cX10_over 15 = .ok (.iload_n 3, 1) := by decide +kernel
theorem dX10_over_16 : decode cX10_over 16 = .ok (.iconst 0, 1) := by decide +kernel
theorem dX10_over_17 : decode cX10_over 17 = .ok (.invokevirtual 44, 3) := by decide +kernel
theorem dX10_over_20 : decode cX10_over 20 = .ok (.iconst 0, 1) := by decide +kernel
theorem dX10_over_21 : decode cX10_over 21 = .ok (.istore 5, 2) := by decide +kernel
theorem dX10_over_23 : decode cX10_over 23 = .ok (.iload 5, 2) := by decide +kernel
theorem dX10_over_25 : decode cX10_over 25 = .ok (.sipush 200, 3) := by decide +kernel
theorem dX10_over_28 : decode cX10_over 28 = .ok (.if_icmp .ge 34, 3) := by decide +kernel
theorem dX10_over_31 : decode cX10_over 31 = .ok (.aload_n 0, 1) := by decide +kernel
theorem dX10_over_32 : decode cX10_over 32 = .ok (.getfield 30, 3) := by decide +kernel
theorem dX10_over_35 : decode cX10_over 35 = .ok (.ifCond .le 27, 3) := by decide +kernel
theorem dX10_over_38 : decode cX10_over 38 = .ok (.aload_n 0, 1) := by decide +kernel
theorem dX10_over_39 : decode cX10_over 39 = .ok (.dup, 1) := by decide +kernel
theorem dX10_over_40 : decode cX10_over 40 = .ok (.getfield 30, 3) := by decide +kernel
theorem dX10_over_43 : decode cX10_over 43 = .ok (.iconst 1, 1) := by decide +kernel
theorem dX10_over_44 : decode cX10_over 44 = .ok (.isub, 1) := by decide +kernel
theorem dX10_over_45 : decode cX10_over 45 = .ok (.putfield 30, 3) := by decide +kernel
theorem dX10_over_48 : decode cX10_over 48 = .ok (.aload_n 0, 1) := by decide +kernel
theorem dX10_over_49 : decode cX10_over 49 = .ok (.aload_n 0, 1) := by decide +kernel
theorem dX10_over_50 : decode cX10_over 50 = .ok (.getfield 30, 3) := by decide +kernel
theorem dX10_over_53 : decode cX10_over 53 = .ok (.invokevirtual 48, 3) := by decide +kernel
theorem dX10_over_56 : decode cX10_over 56 = .ok (.iinc 5 1, 3) := by decide +kernel
theorem dX10_over_59 : decode cX10_over 59 = .ok (.goto (-36), 3) := by decide +kernel
theorem dX10_over_62 : decode cX10_over 62 = .ok (.aload_n 0, 1) := by decide +kernel
theorem dX10_over_63 : decode cX10_over 63 = .ok (.getfield 37, 3) := by decide +kernel
theorem dX10_over_66 : decode cX10_over 66 = .ok (.aload 4, 2) := by decide +kernel
theorem dX10_over_68 : decode cX10_over 68 = .ok (.invokevirtual 52, 3) := by decide +kernel
theorem dX10_over_71 : decode cX10_over 71 = .ok (.return_, 1) := by decide +kernel
theorem dX10_lookAt_0 : decode cX10_lookAt 0 = .ok (.aload_n 0, 1) := by decide +kernel
theorem dX10_lookAt_1 : decode cX10_lookAt 1 = .ok (.getfield 13, 3) := by decide +kernel
theorem dX10_lookAt_4 : decode cX10_lookAt 4 = .ok (.iload_n 1, 1) := by decide +kernel
theorem dX10_lookAt_5 : decode cX10_lookAt 5 = .ok (.aaload, 1) := by decide +kernel
theorem dX10_lookAt_6 : decode cX10_lookAt 6 = .ok (.astore_n 2, 1) := by decide +kernel
theorem dX10_lookAt_7 : decode cX10_lookAt 7 = .ok (.aload_n 2, 1) := by decide +kernel
theorem dX10_lookAt_8 : decode cX10_lookAt 8 = .ok (.ifnonnull 19, 3) := by decide +kernel
theorem dX10_lookAt_11 : decode cX10_lookAt 11 = .ok (.aload_n 0, 1) := by decide +kernel
theorem dX10_lookAt_12 : decode cX10_lookAt 12 = .ok (.getfield 37, 3) := by decide +kernel
theorem dX10_lookAt_15 : decode cX10_lookAt 15 = .ok (.aload_n 0, 1) := by decide +kernel
theorem dX10_lookAt_16 : decode cX10_lookAt 16 = .ok (.getfield 27, 3) := by decide +kernel
theorem dX10_lookAt_19 : decode cX10_lookAt 19 = .ok (.iload_n 1, 1) := by decide +kernel
theorem dX10_lookAt_20 : decode cX10_lookAt 20 = .ok (.iaload, 1) := by decide +kernel
theorem dX10_lookAt_21 : decode cX10_lookAt 21 = .ok (.invokevirtual 56, 3) := by decide +kernel
theorem dX10_lookAt_24 : decode cX10_lookAt 24 = .ok (.goto 26, 3) := by decide +kernel
theorem dX10_lookAt_27 : decode cX10_lookAt 27 = .ok (.aload_n 2, 1) := by decide +kernel
theorem dX10_lookAt_28 : decode cX10_lookAt 28 = .ok (.aload_n 0, 1) := by decide +kernel
theorem dX10_lookAt_29 : decode cX10_lookAt 29 = .ok (.getfield 17, 3) := by decide +kernel
theorem dX10_lookAt_32 : decode cX10_lookAt 32 = .ok (.iload_n 1, 1) := by decide +kernel
theorem dX10_lookAt_33 : decode cX10_lookAt 33 = .ok (.iaload, 1) := by decide +kernel
theorem dX10_lookAt_34 : decode cX10_lookAt 34 = .ok (.aload_n 0, 1) := by decide +kernel
theorem dX10_lookAt_35 : decode cX10_lookAt 35 = .ok (.getfield 21, 3) := by decide +kernel
theorem dX10_lookAt_38 : decode cX10_lookAt 38 = .ok (.iload_n 1, 1) := by decide +kernel
theorem dX10_lookAt_39 : decode cX10_lookAt 39 = .ok (.iaload, 1) := by decide +kernel
theorem dX10_lookAt_40 : decode cX10_lookAt 40 = .ok (.aload_n 0, 1) := by decide +kernel
theorem dX10_lookAt_41 : decode cX10_lookAt 41 = .ok (.getfield 24, 3) := by decide +kernel
theorem dX10_lookAt_44 : decode cX10_lookAt 44 = .ok (.iload_n 1, 1) := by decide +kernel
theorem dX10_lookAt_45 : decode cX10_lookAt 45 = .ok (.iaload, 1) := by decide +kernel
theorem dX10_lookAt_46 : decode cX10_lookAt 46 = .ok (.aload_n 0, 1) := by decide +kernel
theorem dX10_lookAt_47 : decode cX10_lookAt 47 = .ok (.invokevirtual 59, 3) := by decide +kernel
theorem dX10_lookAt_50 : decode cX10_lookAt 50 = .ok (.return_, 1) := by decide +kernel
theorem dX10_await_0 : decode cX10_await 0 = .ok (.aload_n 0, 1) := by decide +kernel
theorem dX10_await_1 : decode cX10_await 1 = .ok (.getfield 30, 3) := by decide +kernel
theorem dX10_await_4 : decode cX10_await 4 = .ok (.bipush 100, 2) := by decide +kernel
theorem dX10_await_6 : decode cX10_await 6 = .ok (.if_icmp .lt 4, 3) := by decide +kernel
theorem dX10_await_9 : decode cX10_await 9 = .ok (.return_, 1) := by decide +kernel
theorem dX10_await_10 : decode cX10_await 10 = .ok (.aload_n 0, 1) := by decide +kernel
theorem dX10_await_11 : decode cX10_await 11 = .ok (.getfield 13, 3) := by decide +kernel
theorem dX10_await_14 : decode cX10_await 14 = .ok (.aload_n 0, 1) := by decide +kernel
theorem dX10_await_15 : decode cX10_await 15 = .ok (.getfield 30, 3) := by decide +kernel
theorem dX10_await_18 : decode cX10_await 18 = .ok (.aload_n 1, 1) := by decide +kernel
theorem dX10_await_19 : decode cX10_await 19 = .ok (.aastore, 1) := by decide +kernel
theorem dX10_await_20 : decode cX10_await 20 = .ok (.aload_n 0, 1) := by decide +kernel
theorem dX10_await_21 : decode cX10_await 21 = .ok (.getfield 17, 3) := by decide +kernel
theorem dX10_await_24 : decode cX10_await 24 = .ok (.aload_n 0, 1) := by decide +kernel
theorem dX10_await_25 : decode cX10_await 25 = .ok (.getfield 30, 3) := by decide +kernel
theorem dX10_await_28 : decode cX10_await 28 = .ok (.iload_n 2, 1) := by decide +kernel
theorem dX10_await_29 : decode cX10_await 29 = .ok (.iastore, 1) := by decide +kernel
theorem dX10_await_30 : decode cX10_await 30 = .ok (.aload_n 0, 1) := by decide +kernel
theorem dX10_await_31 : decode cX10_await 31 = .ok (.getfield 21, 3) := by decide +kernel
theorem dX10_await_34 : decode cX10_await 34 = .ok (.aload_n 0, 1) := by decide +kernel
theorem dX10_await_35 : decode cX10_await 35 = .ok (.getfield 30, 3) := by decide +kernel
theorem dX10_await_38 : decode cX10_await 38 = .ok (.iload_n 3, 1) := by decide +kernel
theorem dX10_await_39 : decode cX10_await 39 = .ok (.iastore, 1) := by decide +kernel
theorem dX10_await_40 : decode cX10_await 40 = .ok (.aload_n 0, 1) := by decide +kernel
theorem dX10_await_41 : decode cX10_await 41 = .ok (.getfield 24, 3) := by decide +kernel
theorem dX10_await_44 : decode cX10_await 44 = .ok (.aload_n 0, 1) := by decide +kernel
theorem dX10_await_45 : decode cX10_await 45 = .ok (.getfield 30, 3) := by decide +kernel
theorem dX10_await_48 : decode cX10_await 48 = .ok (.iload 4, 2) := by decide +kernel
theorem dX10_await_50 : decode cX10_await 50 = .ok (.iastore, 1) := by decide +kernel
theorem dX10_await_51 : decode cX10_await 51 = .ok (.aload_n 0, 1) := by decide +kernel
theorem dX10_await_52 : decode cX10_await 52 = .ok (.dup, 1) := by decide +kernel
theorem dX10_await_53 : decode cX10_await 53 = .ok (.getfield 30, 3) := by decide +kernel
theorem dX10_await_56 : decode cX10_await 56 = .ok (.iconst 1, 1) := by decide +kernel
theorem dX10_await_57 : decode cX10_await 57 = .ok (.iadd, 1) := by decide +kernel
theorem dX10_await_58 : decode cX10_await 58 = .ok (.putfield 30, 3) := by decide +kernel
theorem dX10_await_61 : decode cX10_await 61 = .ok (.return_, 1) := by decide +kernel
theorem dX10_awaitJoin_0 : decode cX10_awaitJoin 0 = .ok (.aload_n 0, 1) := by decide +kernel
theorem dX10_awaitJoin_1 : decode cX10_awaitJoin 1 = .ok (.getfield 30, 3) := by decide +kernel
theorem dX10_awaitJoin_4 : decode cX10_awaitJoin 4 = .ok (.bipush 100, 2) := by decide +kernel
theorem dX10_awaitJoin_6 : decode cX10_awaitJoin 6 = .ok (.if_icmp .lt 4, 3) := by decide +kernel
theorem dX10_awaitJoin_9 : decode cX10_awaitJoin 9 = .ok (.return_, 1) := by decide +kernel
theorem dX10_awaitJoin_10 : decode cX10_awaitJoin 10 = .ok (.aload_n 0, 1) := by decide +kernel
theorem dX10_awaitJoin_11 : decode cX10_awaitJoin 11 = .ok (.getfield 13, 3) := by decide +kernel
theorem dX10_awaitJoin_14 : decode cX10_awaitJoin 14 = .ok (.aload_n 0, 1) := by decide +kernel
theorem dX10_awaitJoin_15 : decode cX10_awaitJoin 15 = .ok (.getfield 30, 3) := by decide +kernel
theorem dX10_awaitJoin_18 : decode cX10_awaitJoin 18 = .ok (.aconst_null, 1) := by decide +kernel
theorem dX10_awaitJoin_19 : decode cX10_awaitJoin 19 = .ok (.aastore, 1) := by decide +kernel
theorem dX10_awaitJoin_20 : decode cX10_awaitJoin 20 = .ok (.aload_n 0, 1) := by decide +kernel
theorem dX10_awaitJoin_21 : decode cX10_awaitJoin 21 = .ok (.getfield 27, 3) := by decide +kernel
theorem dX10_awaitJoin_24 : decode cX10_awaitJoin 24 = .ok (.aload_n 0, 1) := by decide +kernel
theorem dX10_awaitJoin_25 : decode cX10_awaitJoin 25 = .ok (.getfield 30, 3) := by decide +kernel
theorem dX10_awaitJoin_28 : decode cX10_awaitJoin 28 = .ok (.iload_n 1, 1) := by decide +kernel
theorem dX10_awaitJoin_29 : decode cX10_awaitJoin 29 = .ok (.iastore, 1) := by decide +kernel
theorem dX10_awaitJoin_30 : decode cX10_awaitJoin 30 = .ok (.aload_n 0, 1) := by decide +kernel
theorem dX10_awaitJoin_31 : decode cX10_awaitJoin 31 = .ok (.dup, 1) := by decide +kernel
theorem dX10_awaitJoin_32 : decode cX10_awaitJoin 32 = .ok (.getfield 30, 3) := by decide +kernel
theorem dX10_awaitJoin_35 : decode cX10_awaitJoin 35 = .ok (.iconst 1, 1) := by decide +kernel
theorem dX10_awaitJoin_36 : decode cX10_awaitJoin 36 = .ok (.iadd, 1) := by decide +kernel
theorem dX10_awaitJoin_37 : decode cX10_awaitJoin 37 = .ok (.putfield 30, 3) := by decide +kernel
theorem dX10_awaitJoin_40 : decode cX10_awaitJoin 40 = .ok (.return_, 1) := by decide +kernel
theorem dX10_give_0 : decode cX10_give 0 = .ok (.aload_n 0, 1) := by decide +kernel
theorem dX10_give_1 : decode cX10_give 1 = .ok (.getfield 37, 3) := by decide +kernel
theorem dX10_give_4 : decode cX10_give 4 = .ok (.iload_n 1, 1) := by decide +kernel
theorem dX10_give_5 : decode cX10_give 5 = .ok (.iload_n 2, 1) := by decide +kernel
theorem dX10_give_6 : decode cX10_give 6 = .ok (.invokevirtual 63, 3) := by decide +kernel
theorem dX10_give_9 : decode cX10_give 9 = .ok (.return_, 1) := by decide +kernel
theorem dX10_giveNone_0 : decode cX10_giveNone 0 = .ok (.aload_n 0, 1) := by decide +kernel
theorem dX10_giveNone_1 : decode cX10_giveNone 1 = .ok (.getfield 37, 3) := by decide +kernel
theorem dX10_giveNone_4 : decode cX10_giveNone 4 = .ok (.iconst 0, 1) := by decide +kernel
theorem dX10_giveNone_5 : decode cX10_giveNone 5 = .ok (.iconst 0, 1) := by decide +kernel
theorem dX10_giveNone_6 : decode cX10_giveNone 6 = .ok (.invokevirtual 63, 3) := by decide +kernel
theorem dX10_giveNone_9 : decode cX10_giveNone 9 = .ok (.return_, 1) := by decide +kernel
theorem dX11_init_0 : decode cX11_init 0 = .ok (.aload_n 0, 1) := by decide +kernel
theorem dX11_init_1 : decode cX11_init 1 = .ok (.invokespecial 3, 3) := by decide +kernel
theorem dX11_init_4 : decode cX11_init 4 = .ok (.aload_n 0, 1) := by decide +kernel
theorem dX11_init_5 : decode cX11_init 5 = .ok (.bipush 6, 2) := by decide +kernel
theorem dX11_init_7 : decode cX11_init 7 = .ok (.newarray .int, 2) := by decide +kernel
theorem dX11_init_9 : decode cX11_init 9 = .ok (.putfield 9, 3) := by decide +kernel
theorem dX11_init_12 : decode cX11_init 12 = .ok (.aload_n 0, 1) := by decide +kernel
theorem dX11_init_13 : decode cX11_init 13 = .ok (.iconst 0, 1) := by decide +kernel
theorem dX11_init_14 : decode cX11_init 14 = .ok (.putfield 13, 3) := by decide +kernel
theorem dX11_init_17 : decode cX11_init 17 = .ok (.aload_n 0, 1) := by decide +kernel
theorem dX11_init_18 : decode cX11_init 18 = .ok (.bipush 60, 2) := by decide +kernel
theorem dX11_init_20 : decode cX11_init 20 = .ok (.anewarray 17, 3) := by decide +kernel
theorem dX11_init_23 : decode cX11_init 23 = .ok (.putfield 19, 3) := by decide +kernel
theorem dX11_init_26 : decode cX11_init 26 = .ok (.aload_n 0, 1) := by decide +kernel
theorem dX11_init_27 : decode cX11_init 27 = .ok (.iconst 0, 1) := by decide +kernel
theorem dX11_init_28 : decode cX11_init 28 = .ok (.putfield 23, 3) := by decide +kernel
theorem dX11_init_31 : decode cX11_init 31 = .ok (.aload_n 0, 1) := by decide +kernel
theorem dX11_init_32 : decode cX11_init 32 = .ok (.new 26, 3) := by decide +kernel
theorem dX11_init_35 : decode cX11_init 35 = .ok (.dup, 1) := by decide +kernel
theorem dX11_init_36 : decode cX11_init 36 = .ok (.invokespecial 28, 3) := by decide +kernel
theorem dX11_init_39 : decode cX11_init 39 = .ok (.putfield 29, 3) := by decide +kernel
theorem dX11_init_42 : decode cX11_init 42 = .ok (.aload_n 0, 1) := by decide +kernel
theorem dX11_init_43 : decode cX11_init 43 = .ok (.new 33, 3) := by decide +kernel
theorem dX11_init_46 : decode cX11_init 46 = .ok (.dup, 1) := by decide +kernel
theorem dX11_init_47 : decode cX11_init 47 = .ok (.invokespecial 35, 3) := by decide +kernel
theorem dX11_init_50 : decode cX11_init 50 = .ok (.putfield 36, 3) := by decide +kernel
theorem dX11_init_53 : decode cX11_init 53 = .ok (.aload_n 0, 1) := by decide +kernel
theorem dX11_init_54 : decode cX11_init 54 = .ok (.new 33, 3) := by decide +kernel
theorem dX11_init_57 : decode cX11_init 57 = .ok (.dup, 1) := by decide +kernel
theorem dX11_init_58 : decode cX11_init 58 = .ok (.invokespecial 35, 3) := by decide +kernel
theorem dX11_init_61 : decode cX11_init 61 = .ok (.putfield 40, 3) := by decide +kernel
theorem dX11_init_64 : decode cX11_init 64 = .ok (.return_, 1) := by decide +kernel
theorem dX11_size_0 : decode cX11_size 0 = .ok (.iload_n 1, 1) := by decide +kernel
theorem dX11_size_1 : decode cX11_size 1 = .ok (.sipush (-5000), 3) := by decide +kernel
theorem dX11_size_4 : decode cX11_size 4 = .ok (.if_icmp .lt 19, 3) := by decide +kernel
theorem dX11_size_7 : decode cX11_size 7 = .ok (.iload_n 1, 1) := by decide +kernel
theorem dX11_size_8 : decode cX11_size 8 = .ok (.sipush 5000, 3) := by decide +kernel
theorem dX11_size_11 : decode cX11_size 11 = .ok (.if_icmp .gt 12, 3) := by decide +kernel
theorem dX11_size_14 : decode cX11_size 14 = .ok (.aload_n 0, 1) := by decide +kernel
theorem dX11_size_15 : decode cX11_size 15 = .ok (.getfield 13, 3) := by decide +kernel
theorem dX11_size_18 : decode cX11_size 18 = .ok (.bipush 6, 2) := by decide +kernel
theorem dX11_size_20 : decode cX11_size 20 = .ok (.if_icmp .lt 5, 3) := by decide +kernel
theorem dX11_size_23 : decode cX11_size 23 = .ok (.iconst (-1), 1) := by decide +kernel
theorem dX11_size_24 : decode cX11_size 24 = .ok (.ireturn, 1) := by decide +kernel
theorem dX11_size_25 : decode cX11_size 25 = .ok (.aload_n 0, 1) := by decide +kernel
theorem dX11_size_26 : decode cX11_size 26 = .ok (.getfield 9, 3) := by decide +kernel
theorem dX11_size_29 : decode cX11_size 29 = .ok (.aload_n 0, 1) := by decide +kernel
theorem dX11_size_30 : decode cX11_size 30 = .ok (.getfield 13, 3) := by decide +kernel
theorem dX11_size_33 : decode cX11_size 33 = .ok (.iload_n 1, 1) := by decide +kernel
theorem dX11_size_34 : decode cX11_size 34 = .ok (.iastore, 1) := by decide +kernel
theorem dX11_size_35 : decode cX11_size 35 = .ok (.aload_n 0, 1) := by decide +kernel
theorem dX11_size_36 : decode cX11_size 36 = .ok (.dup, 1) := by decide +kernel
theorem dX11_size_37 : decode cX11_size 37 = .ok (.getfield 13, 3) := by decide +kernel
theorem dX11_size_40 : decode cX11_size 40 = .ok (.iconst 1, 1) := by decide +kernel
theorem dX11_size_41 : decode cX11_size 41 = .ok (.iadd, 1) := by decide +kernel
theorem dX11_size_42 : decode cX11_size 42 = .ok (.putfield 13, 3) := by decide +kernel
theorem dX11_size_45 : decode cX11_size 45 = .ok (.aload_n 0, 1) := by decide +kernel
theorem dX11_size_46 : decode cX11_size 46 = .ok (.getfield 13, 3) := by decide +kernel
theorem dX11_size_49 : decode cX11_size 49 = .ok (.ireturn, 1) := by decide +kernel
theorem dX11_solid_0 : decode cX11_solid 0 = .ok (.aload_n 0, 1) := by decide +kernel
theorem dX11_solid_1 : decode cX11_solid 1 = .ok (.invokevirtual 43, 3) := by decide +kernel
theorem dX11_solid_4 : decode cX11_solid 4 = .ok (.istore_n 2, 1) := by decide +kernel
theorem dX11_solid_5 : decode cX11_solid 5 = .ok (.iload_n 2, 1) := by decide +kernel
theorem dX11_solid_6 : decode cX11_solid 6 = .ok (.iload_n 1, 1) := by decide +kernel
theorem dX11_solid_7 : decode cX11_solid 7 = .ok (.invokestatic 47, 3) := by decide +kernel
theorem dX11_solid_10 : decode cX11_solid 10 = .ok (.if_icmp .ne 11, 3) := by decide +kernel
theorem dX11_solid_13 : decode cX11_solid 13 = .ok (.aload_n 0, 1) := by decide +kernel
theorem dX11_solid_14 : decode cX11_solid 14 = .ok (.iload_n 1, 1) := by decide +kernel
theorem dX11_solid_15 : decode cX11_solid 15 = .ok (.invokevirtual 51, 3) := by decide +kernel
theorem dX11_solid_18 : decode cX11_solid 18 = .ok (.ifCond .ge 5, 3) := by decide +kernel
theorem dX11_solid_21 : decode cX11_solid 21 = .ok (.iconst (-1), 1) := by decide +kernel
theorem dX11_solid_22 : decode cX11_solid 22 = .ok (.ireturn, 1) := by decide +kernel
theorem dX11_solid_23 : decode cX11_solid 23 = .ok (.aload_n 0, 1) := by decide +kernel
theorem dX11_solid_24 : decode cX11_solid 24 = .ok (.invokevirtual 54, 3) := by decide +kernel
theorem dX11_solid_27 : decode cX11_solid 27 = .ok (.ifCond .eq 8, 3) := by decide +kernel
theorem dX11_solid_30 : decode cX11_solid 30 = .ok (.bipush (-2), 2) := by decide +kernel
theorem dX11_solid_32 : decode cX11_solid 32 = .ok (.goto 12, 3) := by decide +kernel
theorem dX11_solid_35 : decode cX11_solid 35 = .ok (.aload_n 0, 1) := by decide +kernel
theorem dX11_solid_36 : decode cX11_solid 36 = .ok (.aload_n 0, 1) := by decide +kernel
theorem dX11_solid_37 : decode cX11_solid 37 = .ok (.iload_n 1, 1) := by decide +kernel
theorem dX11_solid_38 : decode cX11_solid 38 = .ok (.invokevirtual 58, 3) := by decide +kernel
theorem dX11_solid_41 : decode cX11_solid 41 = .ok (.invokevirtual 62, 3) := by decide +kernel
theorem dX11_solid_44 : decode cX11_solid 44 = .ok (.ireturn, 1) := by decide +kernel
theorem dX11_join_0 : decode cX11_join 0 = .ok (.aload_n 0, 1) := by decide +kernel
theorem dX11_join_1 : decode cX11_join 1 = .ok (.iload_n 1, 1) := by decide +kernel
theorem dX11_join_2 : decode cX11_join 2 = .ok (.invokevirtual 66, 3) := by decide +kernel
theorem dX11_join_5 : decode cX11_join 5 = .ok (.astore 4, 2) := by decide +kernel
theorem dX11_join_7 : decode cX11_join 7 = .ok (.aload_n 0, 1) := by decide +kernel
theorem dX11_join_8 : decode cX11_join 8 = .ok (.iload_n 2, 1) := by decide +kernel
theorem dX11_join_9 : decode cX11_join 9 = .ok (.invokevirtual 66, 3) := by decide +kernel
theorem dX11_join_12 : decode cX11_join 12 = .ok (.astore 5, 2) := by decide +kernel
theorem dX11_join_14 : decode cX11_join 14 = .ok (.aload 4, 2) := by decide +kernel
theorem dX11_join_16 : decode cX11_join 16 = .ok (.ifnull 17, 3) := by decide +kernel
theorem dX11_join_19 : decode cX11_join 19 = .ok (.aload 5, 2) := by decide +kernel
theorem dX11_join_21 : decode cX11_join 21 = .ok (.ifnull 12, 3) := by decide +kernel
theorem dX11_join_24 : decode cX11_join 24 = .ok (.iload_n 3, 1) := by decide +kernel
theorem dX11_join_25 : decode cX11_join 25 = .ok (.ifCond .lt 8, 3) := by decide +kernel
theorem dX11_join_28 : decode cX11_join 28 = .ok (.iload_n 3, 1) := by decide +kernel
theorem dX11_join_29 : decode cX11_join 29 = .ok (.iconst 2, 1) := by decide +kernel
theorem dX11_join_30 : decode cX11_join 30 = .ok (.if_icmp .le 5, 3) := by decide +kernel
theorem dX11_join_33 : decode cX11_join 33 = .ok (.iconst (-1), 1) := by decide +kernel
theorem dX11_join_34 : decode cX11_join 34 = .ok (.ireturn, 1) := by decide +kernel
theorem dX11_join_35 : decode cX11_join 35 = .ok (.aload 4, 2) := by decide +kernel
theorem dX11_join_37 : decode cX11_join 37 = .ok (.getfield 69, 3) := by decide +kernel
theorem dX11_join_40 : decode cX11_join 40 = .ok (.aload 5, 2) := by decide +kernel
theorem dX11_join_42 : decode cX11_join 42 = .ok (.getfield 69, 3) := by decide +kernel
theorem dX11_join_45 : decode cX11_join 45 = .ok (.iadd, 1) := by decide +kernel
theorem dX11_join_46 : decode cX11_join 46 = .ok (.iconst 1, 1) := by decide +kernel
theorem dX11_join_47 : decode cX11_join 47 = .ok (.iadd, 1) := by decide +kernel
theorem dX11_join_48 : decode cX11_join 48 = .ok (.bipush 100, 2) := by decide +kernel
theorem dX11_join_50 : decode cX11_join 50 = .ok (.if_icmp .le 5, 3) := by decide +kernel
theorem dX11_join_53 : decode cX11_join 53 = .ok (.iconst (-1), 1) := by decide +kernel
theorem dX11_join_54 : decode cX11_join 54 = .ok (.ireturn, 1) := by decide +kernel
theorem dX11_join_55 : decode cX11_join 55 = .ok (.aload_n 0, 1) := by decide +kernel
theorem dX11_join_56 : decode cX11_join 56 = .ok (.invokevirtual 54, 3) := by decide +kernel
theorem dX11_join_59 : decode cX11_join 59 = .ok (.ifCond .eq 8, 3) := by decide +kernel
theorem dX11_join_62 : decode cX11_join 62 = .ok (.bipush (-2), 2) := by decide +kernel
theorem dX11_join_64 : decode cX11_join 64 = .ok (.goto 19, 3) := by decide +kernel
theorem dX11_join_67 : decode cX11_join 67 = .ok (.aload_n 0, 1) := by decide +kernel
theorem dX11_join_68 : decode cX11_join 68 = .ok (.new 72, 3) := by decide +kernel
theorem dX11_join_71 : decode cX11_join 71 = .ok (.dup, 1) := by decide +kernel
theorem dX11_join_72 : decode cX11_join 72 = .ok (.aload 4, 2) := by decide +kernel
theorem dX11_join_74 : decode cX11_join 74 = .ok (.aload 5, 2) := by decide +kernel
theorem dX11_join_76 : decode cX11_join 76 = .ok (.iload_n 3, 1) := by decide +kernel
theorem dX11_join_77 : decode cX11_join 77 = .ok (.invokespecial 74, 3) := by decide +kernel
theorem dX11_join_80 : decode cX11_join 80 = .ok (.invokevirtual 62, 3) := by decide +kernel
theorem dX11_join_83 : decode cX11_join 83 = .ok (.ireturn, 1) := by decide +kernel
theorem dX11_moved_0 : decode cX11_moved 0 = .ok (.aload_n 0, 1) := by decide +kernel
theorem dX11_moved_1 : decode cX11_moved 1 = .ok (.invokevirtual 43, 3) := by decide +kernel
theorem dX11_moved_4 : decode cX11_moved 4 = .ok (.istore_n 2, 1) := by decide +kernel
theorem dX11_moved_5 : decode cX11_moved 5 = .ok (.aload_n 0, 1) := by decide +kernel
theorem dX11_moved_6 : decode cX11_moved 6 = .ok (.iload_n 1, 1) := by decide +kernel
theorem dX11_moved_7 : decode cX11_moved 7 = .ok (.invokevirtual 66, 3) := by decide +kernel
theorem dX11_moved_10 : decode cX11_moved 10 = .ok (.astore_n 3, 1) := by decide +kernel
theorem dX11_moved_11 : decode cX11_moved 11 = .ok (.aload_n 3, 1) := by decide +kernel
theorem dX11_moved_12 : decode cX11_moved 12 = .ok (.ifnull 19, 3) := by decide +kernel
theorem dX11_moved_15 : decode cX11_moved 15 = .ok (.iload_n 2, 1) := by decide +kernel
theorem dX11_moved_16 : decode cX11_moved 16 = .ok (.iconst 3, 1) := by decide +kernel
theorem dX11_moved_17 : decode cX11_moved 17 = .ok (.if_icmp .ne 14, 3) := by decide +kernel
theorem dX11_moved_20 : decode cX11_moved 20 = .ok (.aload_n 3, 1) := by decide +kernel
theorem dX11_moved_21 : decode cX11_moved 21 = .ok (.getfield 69, 3) := by decide +kernel
theorem dX11_moved_24 : decode cX11_moved 24 = .ok (.iconst 1, 1) := by decide +kernel
theorem dX11_moved_25 : decode cX11_moved 25 = .ok (.iadd, 1) := by decide +kernel
theorem dX11_moved_26 : decode cX11_moved 26 = .ok (.bipush 100, 2) := by decide +kernel
theorem dX11_moved_28 : decode cX11_moved 28 = .ok (.if_icmp .le 5, 3) := by decide +kernel
theorem dX11_moved_31 : decode cX11_moved 31 = .ok (.iconst (-1), 1) := by decide +kernel
theorem dX11_moved_32 : decode cX11_moved 32 = .ok (.ireturn, 1) := by decide +kernel
theorem dX11_moved_33 : decode cX11_moved 33 = .ok (.aload_n 0, 1) := by decide +kernel
theorem dX11_moved_34 : decode cX11_moved 34 = .ok (.invokevirtual 54, 3) := by decide +kernel
theorem dX11_moved_37 : decode cX11_moved 37 = .ok (.ifCond .eq 8, 3) := by decide +kernel
theorem dX11_moved_40 : decode cX11_moved 40 = .ok (.bipush (-2), 2) := by decide +kernel
theorem dX11_moved_42 : decode cX11_moved 42 = .ok (.goto 33, 3) := by decide +kernel
theorem dX11_moved_45 : decode cX11_moved 45 = .ok (.aload_n 0, 1) := by decide +kernel
theorem dX11_moved_46 : decode cX11_moved 46 = .ok (.new 77, 3) := by decide +kernel
theorem dX11_moved_49 : decode cX11_moved 49 = .ok (.dup, 1) := by decide +kernel
theorem dX11_moved_50 : decode cX11_moved 50 = .ok (.aload_n 3, 1) := by decide +kernel
theorem dX11_moved_51 : decode cX11_moved 51 = .ok (.aload_n 0, 1) := by decide +kernel
theorem dX11_moved_52 : decode cX11_moved 52 = .ok (.getfield 9, 3) := by decide +kernel
theorem dX11_moved_55 : decode cX11_moved 55 = .ok (.iconst 0, 1) := by decide +kernel
theorem dX11_moved_56 : decode cX11_moved 56 = .ok (.iaload, 1) := by decide +kernel
theorem dX11_moved_57 : decode cX11_moved 57 = .ok (.aload_n 0, 1) := by decide +kernel
theorem dX11_moved_58 : decode cX11_moved 58 = .ok (.getfield 9, 3) := by decide +kernel
theorem dX11_moved_61 : decode cX11_moved 61 = .ok (.iconst 1, 1) := by decide +kernel
theorem dX11_moved_62 : decode cX11_moved 62 = .ok (.iaload, 1) := by decide +kernel
theorem dX11_moved_63 : decode cX11_moved 63 = .ok (.aload_n 0, 1) := by decide +kernel
theorem dX11_moved_64 : decode cX11_moved 64 = .ok (.getfield 9, 3) := by decide +kernel
theorem dX11_moved_67 : decode cX11_moved 67 = .ok (.iconst 2, 1) := by decide +kernel
theorem dX11_moved_68 : decode cX11_moved 68 = .ok (.iaload, 1) := by decide +kernel
theorem dX11_moved_69 : decode cX11_moved 69 = .ok (.invokespecial 79, 3) := by decide +kernel
theorem dX11_moved_72 : decode cX11_moved 72 = .ok (.invokevirtual 62, 3) := by decide +kernel
theorem dX11_moved_75 : decode cX11_moved 75 = .ok (.ireturn, 1) := by decide +kernel
theorem dX11_turned_0 : decode cX11_turned 0 = .ok (.aload_n 0, 1) := by decide +kernel
theorem dX11_turned_1 : decode cX11_turned 1 = .ok (.iload_n 1, 1) := by decide +kernel
theorem dX11_turned_2 : decode cX11_turned 2 = .ok (.invokevirtual 66, 3) := by decide +kernel
theorem dX11_turned_5 : decode cX11_turned 5 = .ok (.astore_n 2, 1) := by decide +kernel
theorem dX11_turned_6 : decode cX11_turned 6 = .ok (.aload_n 2, 1) := by decide +kernel
theorem dX11_turned_7 : decode cX11_turned 7 = .ok (.ifnull 14, 3) := by decide +kernel
theorem dX11_turned_10 : decode cX11_turned 10 = .ok (.aload_n 2, 1) := by decide +kernel
theorem dX11_turned_11 : decode cX11_turned 11 = .ok (.getfield 69, 3) := by decide +kernel
theorem dX11_turned_14 : decode cX11_turned 14 = .ok (.iconst 1, 1) := by decide +kernel
theorem dX11_turned_15 : decode cX11_turned 15 = .ok (.iadd, 1) := by decide +kernel
theorem dX11_turned_16 : decode cX11_turned 16 = .ok (.bipush 100, 2) := by decide +kernel
theorem dX11_turned_18 : decode cX11_turned 18 = .ok (.if_icmp .le 5, 3) := by decide +kernel
theorem dX11_turned_21 : decode cX11_turned 21 = .ok (.iconst (-1), 1) := by decide +kernel
theorem dX11_turned_22 : decode cX11_turned 22 = .ok (.ireturn, 1) := by decide +kernel
theorem dX11_turned_23 : decode cX11_turned 23 = .ok (.aload_n 0, 1) := by decide +kernel
theorem dX11_turned_24 : decode cX11_turned 24 = .ok (.invokevirtual 54, 3) := by decide +kernel
theorem dX11_turned_27 : decode cX11_turned 27 = .ok (.ifCond .eq 8, 3) := by decide +kernel
theorem dX11_turned_30 : decode cX11_turned 30 = .ok (.bipush (-2), 2) := by decide +kernel
theorem dX11_turned_32 : decode cX11_turned 32 = .ok (.goto 15, 3) := by decide +kernel
theorem dX11_turned_35 : decode cX11_turned 35 = .ok (.aload_n 0, 1) := by decide +kernel
theorem dX11_turned_36 : decode cX11_turned 36 = .ok (.new 82, 3) := by decide +kernel
theorem dX11_turned_39 : decode cX11_turned 39 = .ok (.dup, 1) := by decide +kernel
theorem dX11_turned_40 : decode cX11_turned 40 = .ok (.aload_n 2, 1) := by decide +kernel
theorem dX11_turned_41 : decode cX11_turned 41 = .ok (.invokespecial 84, 3) := by decide +kernel
theorem dX11_turned_44 : decode cX11_turned 44 = .ok (.invokevirtual 62, 3) := by decide +kernel
theorem dX11_turned_47 : decode cX11_turned 47 = .ok (.ireturn, 1) := by decide +kernel
theorem dX11_weight_0 : decode cX11_weight 0 = .ok (.aload_n 0, 1) := by decide +kernel
theorem dX11_weight_1 : decode cX11_weight 1 = .ok (.iload_n 1, 1) := by decide +kernel
theorem dX11_weight_2 : decode cX11_weight 2 = .ok (.invokevirtual 66, 3) := by decide +kernel
theorem dX11_weight_5 : decode cX11_weight 5 = .ok (.astore_n 2, 1) := by decide +kernel
theorem dX11_weight_6 : decode cX11_weight 6 = .ok (.aload_n 2, 1) := by decide +kernel
theorem dX11_weight_7 : decode cX11_weight 7 = .ok (.ifnonnull 7, 3) := by decide +kernel
theorem dX11_weight_10 : decode cX11_weight 10 = .ok (.iconst (-1), 1) := by decide +kernel
theorem dX11_weight_11 : decode cX11_weight 11 = .ok (.goto 7, 3) := by decide +kernel
theorem dX11_weight_14 : decode cX11_weight 14 = .ok (.aload_n 2, 1) := by decide +kernel
theorem dX11_weight_15 : decode cX11_weight 15 = .ok (.getfield 69, 3) := by decide +kernel
theorem dX11_weight_18 : decode cX11_weight 18 = .ok (.ireturn, 1) := by decide +kernel
theorem dX11_inside_0 : decode cX11_inside 0 = .ok (.aload_n 0, 1) := by decide +kernel
theorem dX11_inside_1 : decode cX11_inside 1 = .ok (.iload_n 1, 1) := by decide +kernel
theorem dX11_inside_2 : decode cX11_inside 2 = .ok (.invokevirtual 66, 3) := by decide +kernel
theorem dX11_inside_5 : decode cX11_inside 5 = .ok (.astore 5, 2) := by decide +kernel
theorem dX11_inside_7 : decode cX11_inside 7 = .ok (.aload 5, 2) := by decide +kernel
theorem dX11_inside_9 : decode cX11_inside 9 = .ok (.ifnull 11, 3) := by decide +kernel
theorem dX11_inside_12 : decode cX11_inside 12 = .ok (.iload 4, 2) := by decide +kernel
theorem dX11_inside_14 : decode cX11_inside 14 = .ok (.invokestatic 87, 3) := by decide +kernel
theorem dX11_inside_17 : decode cX11_inside 17 = .ok (.ifCond .eq 5, 3) := by decide +kernel
theorem dX11_inside_20 : decode cX11_inside 20 = .ok (.iconst 0, 1) := by decide +kernel
theorem dX11_inside_21 : decode cX11_inside 21 = .ok (.ireturn, 1) := by decide +kernel
theorem dX11_inside_22 : decode cX11_inside 22 = .ok (.aload_n 0, 1) := by decide +kernel
theorem dX11_inside_23 : decode cX11_inside 23 = .ok (.aload 5, 2) := by decide +kernel
theorem dX11_inside_25 : decode cX11_inside 25 = .ok (.iload_n 2, 1) := by decide +kernel
theorem dX11_inside_26 : decode cX11_inside 26 = .ok (.iload_n 3, 1) := by decide +kernel
theorem dX11_inside_27 : decode cX11_inside 27 = .ok (.aload_n 0, 1) := by decide +kernel
theorem dX11_inside_28 : decode cX11_inside 28 = .ok (.getfield 36, 3) := by decide +kernel
theorem dX11_inside_31 : decode cX11_inside 31 = .ok (.invokevirtual 91, 3) := by decide +kernel
theorem dX11_inside_34 : decode cX11_inside 34 = .ok (.aload_n 0, 1) := by decide +kernel
theorem dX11_inside_35 : decode cX11_inside 35 = .ok (.getfield 36, 3) := by decide +kernel
theorem dX11_inside_38 : decode cX11_inside 38 = .ok (.iload 4, 2) := by decide +kernel
theorem dX11_inside_40 : decode cX11_inside 40 = .ok (.iload 4, 2) := by decide +kernel
theorem dX11_inside_42 : decode cX11_inside 42 = .ok (.invokevirtual 95, 3) := by decide +kernel
theorem dX11_inside_45 : decode cX11_inside 45 = .ok (.lconst 0, 1) := by decide +kernel
theorem dX11_inside_46 : decode cX11_inside 46 = .ok (.lcmp, 1) := by decide +kernel
theorem dX11_inside_47 : decode cX11_inside 47 = .ok (.ifCond .le 7, 3) := by decide +kernel
theorem dX11_inside_50 : decode cX11_inside 50 = .ok (.iconst 1, 1) := by decide +kernel
theorem dX11_inside_51 : decode cX11_inside 51 = .ok (.goto 4, 3) := by decide +kernel
theorem dX11_inside_54 : decode cX11_inside 54 = .ok (.iconst 0, 1) := by decide +kernel
theorem dX11_inside_55 : decode cX11_inside 55 = .ok (.ireturn, 1) := by decide +kernel
theorem dX11_top_0 : decode cX11_top 0 = .ok (.aload_n 0, 1) := by decide +kernel
theorem dX11_top_1 : decode cX11_top 1 = .ok (.iload_n 1, 1) := by decide +kernel
theorem dX11_top_2 : decode cX11_top 2 = .ok (.invokevirtual 66, 3) := by decide +kernel
theorem dX11_top_5 : decode cX11_top 5 = .ok (.astore 4, 2) := by decide +kernel
theorem dX11_top_7 : decode cX11_top 7 = .ok (.aload 4, 2) := by decide +kernel
theorem dX11_top_9 : decode cX11_top 9 = .ok (.ifnonnull 5, 3) := by decide +kernel
theorem dX11_top_12 : decode cX11_top 12 = .ok (.iconst (-1), 1) := by decide +kernel
theorem dX11_top_13 : decode cX11_top 13 = .ok (.ireturn, 1) := by decide +kernel
theorem dX11_top_14 : decode cX11_top 14 = .ok (.aload_n 0, 1) := by decide +kernel
theorem dX11_top_15 : decode cX11_top 15 = .ok (.aload 4, 2) := by decide +kernel
theorem dX11_top_17 : decode cX11_top 17 = .ok (.iload_n 2, 1) := by decide +kernel
theorem dX11_top_18 : decode cX11_top 18 = .ok (.iload_n 3, 1) := by decide +kernel
theorem dX11_top_19 : decode cX11_top 19 = .ok (.aload_n 0, 1) := by decide +kernel
theorem dX11_top_20 : decode cX11_top 20 = .ok (.getfield 36, 3) := by decide +kernel
theorem dX11_top_23 : decode cX11_top 23 = .ok (.invokevirtual 91, 3) := by decide +kernel
theorem dX11_top_26 : decode cX11_top 26 = .ok (.aload_n 0, 1) := by decide +kernel
theorem dX11_top_27 : decode cX11_top 27 = .ok (.getfield 36, 3) := by decide +kernel
theorem dX11_top_30 : decode cX11_top 30 = .ok (.invokevirtual 99, 3) := by decide +kernel
theorem dX11_top_33 : decode cX11_top 33 = .ok (.ireturn, 1) := by decide +kernel
theorem dX11_spans_0 : decode cX11_spans 0 = .ok (.aload_n 0, 1) := by decide +kernel
theorem dX11_spans_1 : decode cX11_spans 1 = .ok (.iload_n 1, 1) := by decide +kernel
theorem dX11_spans_2 : decode cX11_spans 2 = .ok (.invokevirtual 66, 3) := by decide +kernel
theorem dX11_spans_5 : decode cX11_spans 5 = .ok (.astore 4, 2) := by decide +kernel
theorem dX11_spans_7 : decode cX11_spans 7 = .ok (.aload 4, 2) := by decide +kernel
theorem dX11_spans_9 : decode cX11_spans 9 = .ok (.ifnonnull 5, 3) := by decide +kernel
theorem dX11_spans_12 : decode cX11_spans 12 = .ok (.iconst (-1), 1) := by decide +kernel
theorem dX11_spans_13 : decode cX11_spans 13 = .ok (.ireturn, 1) := by decide +kernel
theorem dX11_spans_14 : decode cX11_spans 14 = .ok (.aload_n 0, 1) := by decide +kernel
theorem dX11_spans_15 : decode cX11_spans 15 = .ok (.aload 4, 2) := by decide +kernel
theorem dX11_spans_17 : decode cX11_spans 17 = .ok (.iload_n 2, 1) := by decide +kernel
theorem dX11_spans_18 : decode cX11_spans 18 = .ok (.iload_n 3, 1) := by decide +kernel
theorem dX11_spans_19 : decode cX11_spans 19 = .ok (.aload_n 0, 1) := by decide +kernel
theorem dX11_spans_20 : decode cX11_spans 20 = .ok (.getfield 40, 3) := by decide +kernel
theorem dX11_spans_23 : decode cX11_spans 23 = .ok (.invokevirtual 91, 3) := by decide +kernel
theorem dX11_spans_26 : decode cX11_spans 26 = .ok (.aload_n 0, 1) := by decide +kernel
theorem dX11_spans_27 : decode cX11_spans 27 = .ok (.getfield 40, 3) := by decide +kernel
theorem dX11_spans_30 : decode cX11_spans 30 = .ok (.invokevirtual 102, 3) := by decide +kernel
theorem dX11_spans_33 : decode cX11_spans 33 = .ok (.ireturn, 1) := by decide +kernel
theorem dX11_span_0 : decode cX11_span 0 = .ok (.iload_n 2, 1) := by decide +kernel
theorem dX11_span_1 : decode cX11_span 1 = .ok (.ifCond .ne 12, 3) := by decide +kernel
theorem dX11_span_4 : decode cX11_span 4 = .ok (.aload_n 0, 1) := by decide +kernel
theorem dX11_span_5 : decode cX11_span 5 = .ok (.getfield 40, 3) := by decide +kernel
theorem dX11_span_8 : decode cX11_span 8 = .ok (.iload_n 1, 1) := by decide +kernel
theorem dX11_span_9 : decode cX11_span 9 = .ok (.invokevirtual 105, 3) := by decide +kernel
theorem dX11_span_12 : decode cX11_span 12 = .ok (.ireturn, 1) := by decide +kernel
theorem dX11_span_13 : decode cX11_span 13 = .ok (.iload_n 2, 1) := by decide +kernel
theorem dX11_span_14 : decode cX11_span 14 = .ok (.iconst 1, 1) := by decide +kernel
theorem dX11_span_15 : decode cX11_span 15 = .ok (.if_icmp .ne 14, 3) := by decide +kernel
theorem dX11_span_18 : decode cX11_span 18 = .ok (.aload_n 0, 1) := by decide +kernel
theorem dX11_span_19 : decode cX11_span 19 = .ok (.getfield 40, 3) := by decide +kernel
theorem dX11_span_22 : decode cX11_span 22 = .ok (.iload_n 1, 1) := by decide +kernel
theorem dX11_span_23 : decode cX11_span 23 = .ok (.invokevirtual 108, 3) := by decide +kernel
theorem dX11_span_26 : decode cX11_span 26 = .ok (.goto 4, 3) := by decide +kernel
theorem dX11_span_29 : decode cX11_span 29 = .ok (.iconst 0, 1) := by decide +kernel
theorem dX11_span_30 : decode cX11_span 30 = .ok (.ireturn, 1) := by decide +kernel
theorem dX11_within_0 : decode cX11_within 0 = .ok (.aload_n 0, 1) := by decide +kernel
theorem dX11_within_1 : decode cX11_within 1 = .ok (.getfield 40, 3) := by decide +kernel
theorem dX11_within_4 : decode cX11_within 4 = .ok (.iload_n 1, 1) := by decide +kernel
theorem dX11_within_5 : decode cX11_within 5 = .ok (.iload_n 2, 1) := by decide +kernel
theorem dX11_within_6 : decode cX11_within 6 = .ok (.invokevirtual 95, 3) := by decide +kernel
theorem dX11_within_9 : decode cX11_within 9 = .ok (.lreturn, 1) := by decide +kernel
theorem dX11_find_0 : decode cX11_find 0 = .ok (.iload_n 1, 1) := by decide +kernel
theorem dX11_find_1 : decode cX11_find 1 = .ok (.iconst 1, 1) := by decide +kernel
theorem dX11_find_2 : decode cX11_find 2 = .ok (.if_icmp .lt 11, 3) := by decide +kernel
theorem dX11_find_5 : decode cX11_find 5 = .ok (.iload_n 1, 1) := by decide +kernel
theorem dX11_find_6 : decode cX11_find 6 = .ok (.aload_n 0, 1) := by decide +kernel
theorem dX11_find_7 : decode cX11_find 7 = .ok (.getfield 23, 3) := by decide +kernel
theorem dX11_find_10 : decode cX11_find 10 = .ok (.if_icmp .le 7, 3) := by decide +kernel
theorem dX11_find_13 : decode cX11_find 13 = .ok (.aconst_null, 1) := by decide +kernel
theorem dX11_find_14 : decode cX11_find 14 = .ok (.goto 11, 3) := by decide +kernel
theorem dX11_find_17 : decode cX11_find 17 = .ok (.aload_n 0, 1) := by decide +kernel
theorem dX11_find_18 : decode cX11_find 18 = .ok (.getfield 19, 3) := by decide +kernel
theorem dX11_find_21 : decode cX11_find 21 = .ok (.iload_n 1, 1) := by decide +kernel
theorem dX11_find_22 : decode cX11_find 22 = .ok (.iconst 1, 1) := by decide +kernel
theorem dX11_find_23 : decode cX11_find 23 = .ok (.isub, 1) := by decide +kernel
theorem dX11_find_24 : decode cX11_find 24 = .ok (.aaload, 1) := by decide +kernel
theorem dX11_find_25 : decode cX11_find 25 = .ok (.areturn, 1) := by decide +kernel
theorem dX11_isFull_0 : decode cX11_isFull 0 = .ok (.aload_n 0, 1) := by decide +kernel
theorem dX11_isFull_1 : decode cX11_isFull 1 = .ok (.getfield 23, 3) := by decide +kernel
theorem dX11_isFull_4 : decode cX11_isFull 4 = .ok (.bipush 60, 2) := by decide +kernel
theorem dX11_isFull_6 : decode cX11_isFull 6 = .ok (.if_icmp .lt 7, 3) := by decide +kernel
theorem dX11_isFull_9 : decode cX11_isFull 9 = .ok (.iconst 1, 1) := by decide +kernel
theorem dX11_isFull_10 : decode cX11_isFull 10 = .ok (.goto 4, 3) := by decide +kernel
theorem dX11_isFull_13 : decode cX11_isFull 13 = .ok (.iconst 0, 1) := by decide +kernel
theorem dX11_isFull_14 : decode cX11_isFull 14 = .ok (.ireturn, 1) := by decide +kernel
theorem dX11_keep_0 : decode cX11_keep 0 = .ok (.aload_n 1, 1) := by decide +kernel
theorem dX11_keep_1 : decode cX11_keep 1 = .ok (.ifnull 10, 3) := by decide +kernel
theorem dX11_keep_4 : decode cX11_keep 4 = .ok (.aload_n 0, 1) := by decide +kernel
theorem dX11_keep_5 : decode cX11_keep 5 = .ok (.invokevirtual 54, 3) := by decide +kernel
theorem dX11_keep_8 : decode cX11_keep 8 = .ok (.ifCond .eq 5, 3) := by decide +kernel
theorem dX11_keep_11 : decode cX11_keep 11 = .ok (.iconst (-1), 1) := by decide +kernel
theorem dX11_keep_12 : decode cX11_keep 12 = .ok (.ireturn, 1) := by decide +kernel
theorem dX11_keep_13 : decode cX11_keep 13 = .ok (.aload_n 0, 1) := by decide +kernel
theorem dX11_keep_14 : decode cX11_keep 14 = .ok (.getfield 19, 3) := by decide +kernel
theorem dX11_keep_17 : decode cX11_keep 17 = .ok (.aload_n 0, 1) := by decide +kernel
theorem dX11_keep_18 : decode cX11_keep 18 = .ok (.getfield 23, 3) := by decide +kernel
theorem dX11_keep_21 : decode cX11_keep 21 = .ok (.aload_n 1, 1) := by decide +kernel
theorem dX11_keep_22 : decode cX11_keep 22 = .ok (.aastore, 1) := by decide +kernel
theorem dX11_keep_23 : decode cX11_keep 23 = .ok (.aload_n 0, 1) := by decide +kernel
theorem dX11_keep_24 : decode cX11_keep 24 = .ok (.dup, 1) := by decide +kernel
theorem dX11_keep_25 : decode cX11_keep 25 = .ok (.getfield 23, 3) := by decide +kernel
theorem dX11_keep_28 : decode cX11_keep 28 = .ok (.iconst 1, 1) := by decide +kernel
theorem dX11_keep_29 : decode cX11_keep 29 = .ok (.iadd, 1) := by decide +kernel
theorem dX11_keep_30 : decode cX11_keep 30 = .ok (.putfield 23, 3) := by decide +kernel
theorem dX11_keep_33 : decode cX11_keep 33 = .ok (.aload_n 0, 1) := by decide +kernel
theorem dX11_keep_34 : decode cX11_keep 34 = .ok (.getfield 23, 3) := by decide +kernel
theorem dX11_keep_37 : decode cX11_keep 37 = .ok (.ireturn, 1) := by decide +kernel
theorem dX11_useUpSizes_0 : decode cX11_useUpSizes 0 = .ok (.aload_n 0, 1) := by decide +kernel
theorem dX11_useUpSizes_1 : decode cX11_useUpSizes 1 = .ok (.getfield 13, 3) := by decide +kernel
theorem dX11_useUpSizes_4 : decode cX11_useUpSizes 4 = .ok (.istore_n 1, 1) := by decide +kernel
theorem dX11_useUpSizes_5 : decode cX11_useUpSizes 5 = .ok (.aload_n 0, 1) := by decide +kernel
theorem dX11_useUpSizes_6 : decode cX11_useUpSizes 6 = .ok (.iconst 0, 1) := by decide +kernel
theorem dX11_useUpSizes_7 : decode cX11_useUpSizes 7 = .ok (.putfield 13, 3) := by decide +kernel
theorem dX11_useUpSizes_10 : decode cX11_useUpSizes 10 = .ok (.iload_n 1, 1) := by decide +kernel
theorem dX11_useUpSizes_11 : decode cX11_useUpSizes 11 = .ok (.ireturn, 1) := by decide +kernel
theorem dX11_sizesNeeded_0 : decode cX11_sizesNeeded 0 = .ok (.iload_n 0, 1) := by decide +kernel
theorem dX11_sizesNeeded_1 : decode cX11_sizesNeeded 1 = .ok (.tableswitch 38 0 3 #[31, 34, 36, 34], 31) := by decide +kernel
theorem dX11_sizesNeeded_32 : decode cX11_sizesNeeded 32 = .ok (.bipush 6, 2) := by decide +kernel
theorem dX11_sizesNeeded_34 : decode cX11_sizesNeeded 34 = .ok (.ireturn, 1) := by decide +kernel
theorem dX11_sizesNeeded_35 : decode cX11_sizesNeeded 35 = .ok (.iconst 5, 1) := by decide +kernel
theorem dX11_sizesNeeded_36 : decode cX11_sizesNeeded 36 = .ok (.ireturn, 1) := by decide +kernel
theorem dX11_sizesNeeded_37 : decode cX11_sizesNeeded 37 = .ok (.iconst 4, 1) := by decide +kernel
theorem dX11_sizesNeeded_38 : decode cX11_sizesNeeded 38 = .ok (.ireturn, 1) := by decide +kernel
theorem dX11_sizesNeeded_39 : decode cX11_sizesNeeded 39 = .ok (.iconst (-1), 1) := by decide +kernel
theorem dX11_sizesNeeded_40 : decode cX11_sizesNeeded 40 = .ok (.ireturn, 1) := by decide +kernel
theorem dX11_radiusOf_0 : decode cX11_radiusOf 0 = .ok (.iload_n 1, 1) := by decide +kernel
theorem dX11_radiusOf_1 : decode cX11_radiusOf 1 = .ok (.tableswitch 41 1 3 #[27, 34, 27], 27) := by decide +kernel
theorem dX11_radiusOf_28 : decode cX11_radiusOf 28 = .ok (.aload_n 0, 1) := by decide +kernel
theorem dX11_radiusOf_29 : decode cX11_radiusOf 29 = .ok (.getfield 9, 3) := by decide +kernel
theorem dX11_radiusOf_32 : decode cX11_radiusOf 32 = .ok (.iconst 2, 1) := by decide +kernel
theorem dX11_radiusOf_33 : decode cX11_radiusOf 33 = .ok (.iaload, 1) := by decide +kernel
theorem dX11_radiusOf_34 : decode cX11_radiusOf 34 = .ok (.ireturn, 1) := by decide +kernel
theorem dX11_radiusOf_35 : decode cX11_radiusOf 35 = .ok (.aload_n 0, 1) := by decide +kernel
theorem dX11_radiusOf_36 : decode cX11_radiusOf 36 = .ok (.getfield 9, 3) := by decide +kernel
theorem dX11_radiusOf_39 : decode cX11_radiusOf 39 = .ok (.iconst 3, 1) := by decide +kernel
theorem dX11_radiusOf_40 : decode cX11_radiusOf 40 = .ok (.iaload, 1) := by decide +kernel
theorem dX11_radiusOf_41 : decode cX11_radiusOf 41 = .ok (.ireturn, 1) := by decide +kernel
theorem dX11_radiusOf_42 : decode cX11_radiusOf 42 = .ok (.iconst 0, 1) := by decide +kernel
theorem dX11_radiusOf_43 : decode cX11_radiusOf 43 = .ok (.ireturn, 1) := by decide +kernel
theorem dX11_newShape_0 : decode cX11_newShape 0 = .ok (.iload_n 1, 1) := by decide +kernel
theorem dX11_newShape_1 : decode cX11_newShape 1 = .ok (.tableswitch 183 0 3 #[31, 75, 113, 145], 31) := by decide +kernel
theorem dX11_newShape_32 : decode cX11_newShape 32 = .ok (.new 111, 3) := by decide +kernel
theorem dX11_newShape_35 : decode cX11_newShape 35 = .ok (.dup, 1) := by decide +kernel
theorem dX11_newShape_36 : decode cX11_newShape 36 = .ok (.aload_n 0, 1) := by decide +kernel
theorem dX11_newShape_37 : decode cX11_newShape 37 = .ok (.getfield 9, 3) := by decide +kernel
theorem dX11_newShape_40 : decode cX11_newShape 40 = .ok (.iconst 0, 1) := by decide +kernel
theorem dX11_newShape_41 : decode cX11_newShape 41 = .ok (.iaload, 1) := by decide +kernel
theorem dX11_newShape_42 : decode cX11_newShape 42 = .ok (.aload_n 0, 1) := by decide +kernel
theorem dX11_newShape_43 : decode cX11_newShape 43 = .ok (.getfield 9, 3) := by decide +kernel
theorem dX11_newShape_46 : decode cX11_newShape 46 = .ok (.iconst 1, 1) := by decide +kernel
theorem dX11_newShape_47 : decode cX11_newShape 47 = .ok (.iaload, 1) := by decide +kernel
theorem dX11_newShape_48 : decode cX11_newShape 48 = .ok (.aload_n 0, 1) := by decide +kernel
theorem dX11_newShape_49 : decode cX11_newShape 49 = .ok (.getfield 9, 3) := by decide +kernel
theorem dX11_newShape_52 : decode cX11_newShape 52 = .ok (.iconst 2, 1) := by decide +kernel
theorem dX11_newShape_53 : decode cX11_newShape 53 = .ok (.iaload, 1) := by decide +kernel
theorem dX11_newShape_54 : decode cX11_newShape 54 = .ok (.aload_n 0, 1) := by decide +kernel
theorem dX11_newShape_55 : decode cX11_newShape 55 = .ok (.getfield 9, 3) := by decide +kernel
theorem dX11_newShape_58 : decode cX11_newShape 58 = .ok (.iconst 3, 1) := by decide +kernel
theorem dX11_newShape_59 : decode cX11_newShape 59 = .ok (.iaload, 1) := by decide +kernel
theorem dX11_newShape_60 : decode cX11_newShape 60 = .ok (.aload_n 0, 1) := by decide +kernel
theorem dX11_newShape_61 : decode cX11_newShape 61 = .ok (.getfield 9, 3) := by decide +kernel
theorem dX11_newShape_64 : decode cX11_newShape 64 = .ok (.iconst 4, 1) := by decide +kernel
theorem dX11_newShape_65 : decode cX11_newShape 65 = .ok (.iaload, 1) := by decide +kernel
theorem dX11_newShape_66 : decode cX11_newShape 66 = .ok (.aload_n 0, 1) := by decide +kernel
theorem dX11_newShape_67 : decode cX11_newShape 67 = .ok (.getfield 9, 3) := by decide +kernel
theorem dX11_newShape_70 : decode cX11_newShape 70 = .ok (.iconst 5, 1) := by decide +kernel
theorem dX11_newShape_71 : decode cX11_newShape 71 = .ok (.iaload, 1) := by decide +kernel
theorem dX11_newShape_72 : decode cX11_newShape 72 = .ok (.invokespecial 113, 3) := by decide +kernel
theorem dX11_newShape_75 : decode cX11_newShape 75 = .ok (.areturn, 1) := by decide +kernel
theorem dX11_newShape_76 : decode cX11_newShape 76 = .ok (.new 116, 3) := by decide +kernel
theorem dX11_newShape_79 : decode cX11_newShape 79 = .ok (.dup, 1) := by decide +kernel
theorem dX11_newShape_80 : decode cX11_newShape 80 = .ok (.aload_n 0, 1) := by decide +kernel
theorem dX11_newShape_81 : decode cX11_newShape 81 = .ok (.getfield 9, 3) := by decide +kernel
theorem dX11_newShape_84 : decode cX11_newShape 84 = .ok (.iconst 0, 1) := by decide +kernel
theorem dX11_newShape_85 : decode cX11_newShape 85 = .ok (.iaload, 1) := by decide +kernel
theorem dX11_newShape_86 : decode cX11_newShape 86 = .ok (.aload_n 0, 1) := by decide +kernel
theorem dX11_newShape_87 : decode cX11_newShape 87 = .ok (.getfield 9, 3) := by decide +kernel
theorem dX11_newShape_90 : decode cX11_newShape 90 = .ok (.iconst 1, 1) := by decide +kernel
theorem dX11_newShape_91 : decode cX11_newShape 91 = .ok (.iaload, 1) := by decide +kernel
theorem dX11_newShape_92 : decode cX11_newShape 92 = .ok (.aload_n 0, 1) := by decide +kernel
theorem dX11_newShape_93 : decode cX11_newShape 93 = .ok (.getfield 9, 3) := by decide +kernel
theorem dX11_newShape_96 : decode cX11_newShape 96 = .ok (.iconst 2, 1) := by decide +kernel
theorem dX11_newShape_97 : decode cX11_newShape 97 = .ok (.iaload, 1) := by decide +kernel
theorem dX11_newShape_98 : decode cX11_newShape 98 = .ok (.aload_n 0, 1) := by decide +kernel
theorem dX11_newShape_99 : decode cX11_newShape 99 = .ok (.getfield 9, 3) := by decide +kernel
theorem dX11_newShape_102 : decode cX11_newShape 102 = .ok (.iconst 3, 1) := by decide +kernel
theorem dX11_newShape_103 : decode cX11_newShape 103 = .ok (.iaload, 1) := by decide +kernel
theorem dX11_newShape_104 : decode cX11_newShape 104 = .ok (.aload_n 0, 1) := by decide +kernel
theorem dX11_newShape_105 : decode cX11_newShape 105 = .ok (.getfield 9, 3) := by decide +kernel
theorem dX11_newShape_108 : decode cX11_newShape 108 = .ok (.iconst 4, 1) := by decide +kernel
theorem dX11_newShape_109 : decode cX11_newShape 109 = .ok (.iaload, 1) := by decide +kernel
theorem dX11_newShape_110 : decode cX11_newShape 110 = .ok (.invokespecial 118, 3) := by decide +kernel
theorem dX11_newShape_113 : decode cX11_newShape 113 = .ok (.areturn, 1) := by decide +kernel
theorem dX11_newShape_114 : decode cX11_newShape 114 = .ok (.new 121, 3) := by decide +kernel
theorem dX11_newShape_117 : decode cX11_newShape 117 = .ok (.dup, 1) := by decide +kernel
theorem dX11_newShape_118 : decode cX11_newShape 118 = .ok (.aload_n 0, 1) := by decide +kernel
theorem dX11_newShape_119 : decode cX11_newShape 119 = .ok (.getfield 9, 3) := by decide +kernel
theorem dX11_newShape_122 : decode cX11_newShape 122 = .ok (.iconst 0, 1) := by decide +kernel
theorem dX11_newShape_123 : decode cX11_newShape 123 = .ok (.iaload, 1) := by decide +kernel
theorem dX11_newShape_124 : decode cX11_newShape 124 = .ok (.aload_n 0, 1) := by decide +kernel
theorem dX11_newShape_125 : decode cX11_newShape 125 = .ok (.getfield 9, 3) := by decide +kernel
theorem dX11_newShape_128 : decode cX11_newShape 128 = .ok (.iconst 1, 1) := by decide +kernel
theorem dX11_newShape_129 : decode cX11_newShape 129 = .ok (.iaload, 1) := by decide +kernel
theorem dX11_newShape_130 : decode cX11_newShape 130 = .ok (.aload_n 0, 1) := by decide +kernel
theorem dX11_newShape_131 : decode cX11_newShape 131 = .ok (.getfield 9, 3) := by decide +kernel
theorem dX11_newShape_134 : decode cX11_newShape 134 = .ok (.iconst 2, 1) := by decide +kernel
theorem dX11_newShape_135 : decode cX11_newShape 135 = .ok (.iaload, 1) := by decide +kernel
theorem dX11_newShape_136 : decode cX11_newShape 136 = .ok (.aload_n 0, 1) := by decide +kernel
theorem dX11_newShape_137 : decode cX11_newShape 137 = .ok (.getfield 9, 3) := by decide +kernel
theorem dX11_newShape_140 : decode cX11_newShape 140 = .ok (.iconst 3, 1) := by decide +kernel
theorem dX11_newShape_141 : decode cX11_newShape 141 = .ok (.iaload, 1) := by decide +kernel
theorem dX11_newShape_142 : decode cX11_newShape 142 = .ok (.invokespecial 123, 3) := by decide +kernel
theorem dX11_newShape_145 : decode cX11_newShape 145 = .ok (.areturn, 1) := by decide +kernel
theorem dX11_newShape_146 : decode cX11_newShape 146 = .ok (.new 126, 3) := by decide +kernel
theorem dX11_newShape_149 : decode cX11_newShape 149 = .ok (.dup, 1) := by decide +kernel
theorem dX11_newShape_150 : decode cX11_newShape 150 = .ok (.aload_n 0, 1) := by decide +kernel
theorem dX11_newShape_151 : decode cX11_newShape 151 = .ok (.getfield 9, 3) := by decide +kernel
theorem dX11_newShape_154 : decode cX11_newShape 154 = .ok (.iconst 0, 1) := by decide +kernel
theorem dX11_newShape_155 : decode cX11_newShape 155 = .ok (.iaload, 1) := by decide +kernel
theorem dX11_newShape_156 : decode cX11_newShape 156 = .ok (.aload_n 0, 1) := by decide +kernel
theorem dX11_newShape_157 : decode cX11_newShape 157 = .ok (.getfield 9, 3) := by decide +kernel
theorem dX11_newShape_160 : decode cX11_newShape 160 = .ok (.iconst 1, 1) := by decide +kernel
theorem dX11_newShape_161 : decode cX11_newShape 161 = .ok (.iaload, 1) := by decide +kernel
theorem dX11_newShape_162 : decode cX11_newShape 162 = .ok (.aload_n 0, 1) := by decide +kernel
theorem dX11_newShape_163 : decode cX11_newShape 163 = .ok (.getfield 9, 3) := by decide +kernel
theorem dX11_newShape_166 : decode cX11_newShape 166 = .ok (.iconst 2, 1) := by decide +kernel
theorem dX11_newShape_167 : decode cX11_newShape 167 = .ok (.iaload, 1) := by decide +kernel
theorem dX11_newShape_168 : decode cX11_newShape 168 = .ok (.aload_n 0, 1) := by decide +kernel
theorem dX11_newShape_169 : decode cX11_newShape 169 = .ok (.getfield 9, 3) := by decide +kernel
theorem dX11_newShape_172 : decode cX11_newShape 172 = .ok (.iconst 3, 1) := by decide +kernel
theorem dX11_newShape_173 : decode cX11_newShape 173 = .ok (.iaload, 1) := by decide +kernel
theorem dX11_newShape_174 : decode cX11_newShape 174 = .ok (.aload_n 0, 1) := by decide +kernel
theorem dX11_newShape_175 : decode cX11_newShape 175 = .ok (.getfield 9, 3) := by decide +kernel
theorem dX11_newShape_178 : decode cX11_newShape 178 = .ok (.iconst 4, 1) := by decide +kernel
theorem dX11_newShape_179 : decode cX11_newShape 179 = .ok (.iaload, 1) := by decide +kernel
theorem dX11_newShape_180 : decode cX11_newShape 180 = .ok (.invokespecial 128, 3) := by decide +kernel
theorem dX11_newShape_183 : decode cX11_newShape 183 = .ok (.areturn, 1) := by decide +kernel
theorem dX11_newShape_184 : decode cX11_newShape 184 = .ok (.aconst_null, 1) := by decide +kernel
theorem dX11_newShape_185 : decode cX11_newShape 185 = .ok (.areturn, 1) := by decide +kernel
theorem dX11_lookOver_0 : decode cX11_lookOver 0 = .ok (.iload_n 2, 1) := by decide +kernel
theorem dX11_lookOver_1 : decode cX11_lookOver 1 = .ok (.invokestatic 87, 3) := by decide +kernel
theorem dX11_lookOver_4 : decode cX11_lookOver 4 = .ok (.ifCond .ne 10, 3) := by decide +kernel
theorem dX11_lookOver_7 : decode cX11_lookOver 7 = .ok (.iload_n 3, 1) := by decide +kernel
theorem dX11_lookOver_8 : decode cX11_lookOver 8 = .ok (.invokestatic 87, 3) := by decide +kernel
theorem dX11_lookOver_11 : decode cX11_lookOver 11 = .ok (.ifCond .eq 11, 3) := by decide +kernel
theorem dX11_lookOver_14 : decode cX11_lookOver 14 = .ok (.aload 4, 2) := by decide +kernel
theorem dX11_lookOver_16 : decode cX11_lookOver 16 = .ok (.invokevirtual 129, 3) := by decide +kernel
theorem dX11_lookOver_19 : decode cX11_lookOver 19 = .ok (.goto 15, 3) := by decide +kernel
theorem dX11_lookOver_22 : decode cX11_lookOver 22 = .ok (.aload_n 0, 1) := by decide +kernel
theorem dX11_lookOver_23 : decode cX11_lookOver 23 = .ok (.getfield 29, 3) := by decide +kernel
theorem dX11_lookOver_26 : decode cX11_lookOver 26 = .ok (.aload_n 1, 1) := by decide +kernel
theorem dX11_lookOver_27 : decode cX11_lookOver 27 = .ok (.iload_n 2, 1) := by decide +kernel
theorem dX11_lookOver_28 : decode cX11_lookOver 28 = .ok (.iload_n 3, 1) := by decide +kernel
theorem dX11_lookOver_29 : decode cX11_lookOver 29 = .ok (.aload 4, 2) := by decide +kernel
theorem dX11_lookOver_31 : decode cX11_lookOver 31 = .ok (.invokevirtual 132, 3) := by decide +kernel
theorem dX11_lookOver_34 : decode cX11_lookOver 34 = .ok (.return_, 1) := by decide +kernel
theorem dX11_isBeyond_0 : decode cX11_isBeyond 0 = .ok (.iload_n 0, 1) := by decide +kernel
theorem dX11_isBeyond_1 : decode cX11_isBeyond 1 = .ok (.ldc 135, 2) := by decide +kernel
theorem dX11_isBeyond_3 : decode cX11_isBeyond 3 = .ok (.if_icmp .lt 9, 3) := by decide +kernel
theorem dX11_isBeyond_6 : decode cX11_isBeyond 6 = .ok (.iload_n 0, 1) := by decide +kernel
theorem dX11_isBeyond_7 : decode cX11_isBeyond 7 = .ok (.ldc 136, 2) := by decide +kernel
theorem dX11_isBeyond_9 : decode cX11_isBeyond 9 = .ok (.if_icmp .le 7, 3) := by decide +kernel
theorem dX11_isBeyond_12 : decode cX11_isBeyond 12 = .ok (.iconst 1, 1) := by decide +kernel
theorem dX11_isBeyond_13 : decode cX11_isBeyond 13 = .ok (.goto 4, 3) := by decide +kernel
theorem dX11_isBeyond_16 : decode cX11_isBeyond 16 = .ok (.iconst 0, 1) := by decide +kernel
theorem dX11_isBeyond_17 : decode cX11_isBeyond 17 = .ok (.ireturn, 1) := by decide +kernel
theorem dX11_square_0 : decode cX11_square 0 = .ok (.lload_n 0, 1) := by decide +kernel
theorem dX11_square_1 : decode cX11_square 1 = .ok (.lload_n 0, 1) := by decide +kernel
theorem dX11_square_2 : decode cX11_square 2 = .ok (.lmul, 1) := by decide +kernel
theorem dX11_square_3 : decode cX11_square 3 = .ok (.lreturn, 1) := by decide +kernel
theorem dX11_rootBelow_0 : decode cX11_rootBelow 0 = .ok (.iconst 0, 1) := by decide +kernel
theorem dX11_rootBelow_1 : decode cX11_rootBelow 1 = .ok (.istore_n 3, 1) := by decide +kernel
theorem dX11_rootBelow_2 : decode cX11_rootBelow 2 = .ok (.iload_n 2, 1) := by decide +kernel
theorem dX11_rootBelow_3 : decode cX11_rootBelow 3 = .ok (.istore 4, 2) := by decide +kernel
theorem dX11_rootBelow_5 : decode cX11_rootBelow 5 = .ok (.iconst 0, 1) := by decide +kernel
theorem dX11_rootBelow_6 : decode cX11_rootBelow 6 = .ok (.istore 5, 2) := by decide +kernel
theorem dX11_rootBelow_8 : decode cX11_rootBelow 8 = .ok (.iload 5, 2) := by decide +kernel
theorem dX11_rootBelow_10 : decode cX11_rootBelow 10 = .ok (.bipush 32, 2) := by decide +kernel
theorem dX11_rootBelow_12 : decode cX11_rootBelow 12 = .ok (.if_icmp .ge 50, 3) := by decide +kernel
theorem dX11_rootBelow_15 : decode cX11_rootBelow 15 = .ok (.iload_n 3, 1) := by decide +kernel
theorem dX11_rootBelow_16 : decode cX11_rootBelow 16 = .ok (.iload 4, 2) := by decide +kernel
theorem dX11_rootBelow_18 : decode cX11_rootBelow 18 = .ok (.if_icmp .ge 44, 3) := by decide +kernel
theorem dX11_rootBelow_21 : decode cX11_rootBelow 21 = .ok (.iload_n 3, 1) := by decide +kernel
theorem dX11_rootBelow_22 : decode cX11_rootBelow 22 = .ok (.iload 4, 2) := by decide +kernel
theorem dX11_rootBelow_24 : decode cX11_rootBelow 24 = .ok (.iload_n 3, 1) := by decide +kernel
theorem dX11_rootBelow_25 : decode cX11_rootBelow 25 = .ok (.isub, 1) := by decide +kernel
theorem dX11_rootBelow_26 : decode cX11_rootBelow 26 = .ok (.iconst 1, 1) := by decide +kernel
theorem dX11_rootBelow_27 : decode cX11_rootBelow 27 = .ok (.iadd, 1) := by decide +kernel
theorem dX11_rootBelow_28 : decode cX11_rootBelow 28 = .ok (.iconst 2, 1) := by decide +kernel
theorem dX11_rootBelow_29 : decode cX11_rootBelow 29 = .ok (.idiv, 1) := by decide +kernel
theorem dX11_rootBelow_30 : decode cX11_rootBelow 30 = .ok (.iadd, 1) := by decide +kernel
theorem dX11_rootBelow_31 : decode cX11_rootBelow 31 = .ok (.istore 6, 2) := by decide +kernel
theorem dX11_rootBelow_33 : decode cX11_rootBelow 33 = .ok (.iload 6, 2) := by decide +kernel
theorem dX11_rootBelow_35 : decode cX11_rootBelow 35 = .ok (.i2l, 1) := by decide +kernel
theorem dX11_rootBelow_36 : decode cX11_rootBelow 36 = .ok (.invokestatic 137, 3) := by decide +kernel
theorem dX11_rootBelow_39 : decode cX11_rootBelow 39 = .ok (.lload_n 0, 1) := by decide +kernel
theorem dX11_rootBelow_40 : decode cX11_rootBelow 40 = .ok (.lcmp, 1) := by decide +kernel
theorem dX11_rootBelow_41 : decode cX11_rootBelow 41 = .ok (.ifCond .gt 9, 3) := by decide +kernel
theorem dX11_rootBelow_44 : decode cX11_rootBelow 44 = .ok (.iload 6, 2) := by decide +kernel
theorem dX11_rootBelow_46 : decode cX11_rootBelow 46 = .ok (.istore_n 3, 1) := by decide +kernel
theorem dX11_rootBelow_47 : decode cX11_rootBelow 47 = .ok (.goto 9, 3) := by decide +kernel
theorem dX11_rootBelow_50 : decode cX11_rootBelow 50 = .ok (.iload 6, 2) := by decide +kernel
theorem dX11_rootBelow_52 : decode cX11_rootBelow 52 = .ok (.iconst 1, 1) := by decide +kernel
theorem dX11_rootBelow_53 : decode cX11_rootBelow 53 = .ok (.isub, 1) := by decide +kernel
theorem dX11_rootBelow_54 : decode cX11_rootBelow 54 = .ok (.istore 4, 2) := by decide +kernel
theorem dX11_rootBelow_56 : decode cX11_rootBelow 56 = .ok (.iinc 5 1, 3) := by decide +kernel
theorem dX11_rootBelow_59 : decode cX11_rootBelow 59 = .ok (.goto (-51), 3) := by decide +kernel
theorem dX11_rootBelow_62 : decode cX11_rootBelow 62 = .ok (.iload_n 3, 1) := by decide +kernel
theorem dX11_rootBelow_63 : decode cX11_rootBelow 63 = .ok (.ireturn, 1) := by decide +kernel
theorem dX12_init_0 : decode cX12_init 0 = .ok (.aload_n 0, 1) := by decide +kernel
theorem dX12_init_1 : decode cX12_init 1 = .ok (.invokespecial 1, 3) := by decide +kernel
theorem dX12_init_4 : decode cX12_init 4 = .ok (.aload_n 0, 1) := by decide +kernel
theorem dX12_init_5 : decode cX12_init 5 = .ok (.bipush 61, 2) := by decide +kernel
theorem dX12_init_7 : decode cX12_init 7 = .ok (.newarray .int, 2) := by decide +kernel
theorem dX12_init_9 : decode cX12_init 9 = .ok (.putfield 9, 3) := by decide +kernel
theorem dX12_init_12 : decode cX12_init 12 = .ok (.aload_n 0, 1) := by decide +kernel
theorem dX12_init_13 : decode cX12_init 13 = .ok (.sipush 366, 3) := by decide +kernel
theorem dX12_init_16 : decode cX12_init 16 = .ok (.newarray .int, 2) := by decide +kernel
theorem dX12_init_18 : decode cX12_init 18 = .ok (.putfield 13, 3) := by decide +kernel
theorem dX12_init_21 : decode cX12_init 21 = .ok (.aload_n 0, 1) := by decide +kernel
theorem dX12_init_22 : decode cX12_init 22 = .ok (.bipush 61, 2) := by decide +kernel
theorem dX12_init_24 : decode cX12_init 24 = .ok (.newarray .int, 2) := by decide +kernel
theorem dX12_init_26 : decode cX12_init 26 = .ok (.putfield 16, 3) := by decide +kernel
theorem dX12_init_29 : decode cX12_init 29 = .ok (.aload_n 0, 1) := by decide +kernel
theorem dX12_init_30 : decode cX12_init 30 = .ok (.bipush 6, 2) := by decide +kernel
theorem dX12_init_32 : decode cX12_init 32 = .ok (.newarray .int, 2) := by decide +kernel
theorem dX12_init_34 : decode cX12_init 34 = .ok (.putfield 19, 3) := by decide +kernel
theorem dX12_init_37 : decode cX12_init 37 = .ok (.aload_n 0, 1) := by decide +kernel
theorem dX12_init_38 : decode cX12_init 38 = .ok (.sipush 1632, 3) := by decide +kernel
theorem dX12_init_41 : decode cX12_init 41 = .ok (.newarray .long, 2) := by decide +kernel
theorem dX12_init_43 : decode cX12_init 43 = .ok (.putfield 22, 3) := by decide +kernel
theorem dX12_init_46 : decode cX12_init 46 = .ok (.aload_n 0, 1) := by decide +kernel
theorem dX12_init_47 : decode cX12_init 47 = .ok (.sipush 200, 3) := by decide +kernel
theorem dX12_init_50 : decode cX12_init 50 = .ok (.newarray .long, 2) := by decide +kernel
theorem dX12_init_52 : decode cX12_init 52 = .ok (.putfield 26, 3) := by decide +kernel
theorem dX12_init_55 : decode cX12_init 55 = .ok (.aload_n 0, 1) := by decide +kernel
theorem dX12_init_56 : decode cX12_init 56 = .ok (.bipush 101, 2) := by decide +kernel
theorem dX12_init_58 : decode cX12_init 58 = .ok (.newarray .long, 2) := by decide +kernel
theorem dX12_init_60 : decode cX12_init 60 = .ok (.putfield 29, 3) := by decide +kernel
theorem dX12_init_63 : decode cX12_init 63 = .ok (.aload_n 0, 1) := by decide +kernel
theorem dX12_init_64 : decode cX12_init 64 = .ok (.bipush 101, 2) := by decide +kernel
theorem dX12_init_66 : decode cX12_init 66 = .ok (.newarray .long, 2) := by decide +kernel
theorem dX12_init_68 : decode cX12_init 68 = .ok (.putfield 32, 3) := by decide +kernel
theorem dX12_init_71 : decode cX12_init 71 = .ok (.return_, 1) := by decide +kernel
theorem dX12_size_0 : decode cX12_size 0 = .ok (.iload_n 1, 1) := by decide +kernel
theorem dX12_size_1 : decode cX12_size 1 = .ok (.sipush (-5000), 3) := by decide +kernel
theorem dX12_size_4 : decode cX12_size 4 = .ok (.if_icmp .lt 19, 3) := by decide +kernel
theorem dX12_size_7 : decode cX12_size 7 = .ok (.iload_n 1, 1) := by decide +kernel
theorem dX12_size_8 : decode cX12_size 8 = .ok (.sipush 5000, 3) := by decide +kernel
theorem dX12_size_11 : decode cX12_size 11 = .ok (.if_icmp .gt 12, 3) := by decide +kernel
theorem dX12_size_14 : decode cX12_size 14 = .ok (.aload_n 0, 1) := by decide +kernel
theorem dX12_size_15 : decode cX12_size 15 = .ok (.getfield 35, 3) := by decide +kernel
theorem dX12_size_18 : decode cX12_size 18 = .ok (.bipush 6, 2) := by decide +kernel
theorem dX12_size_20 : decode cX12_size 20 = .ok (.if_icmp .ne 5, 3) := by decide +kernel
theorem dX12_size_23 : decode cX12_size 23 = .ok (.iconst (-1), 1) := by decide +kernel
theorem dX12_size_24 : decode cX12_size 24 = .ok (.ireturn, 1) := by decide +kernel
theorem dX12_size_25 : decode cX12_size 25 = .ok (.aload_n 0, 1) := by decide +kernel
theorem dX12_size_26 : decode cX12_size 26 = .ok (.getfield 19, 3) := by decide +kernel
theorem dX12_size_29 : decode cX12_size 29 = .ok (.aload_n 0, 1) := by decide +kernel
theorem dX12_size_30 : decode cX12_size 30 = .ok (.getfield 35, 3) := by decide +kernel
theorem dX12_size_33 : decode cX12_size 33 = .ok (.iload_n 1, 1) := by decide +kernel
