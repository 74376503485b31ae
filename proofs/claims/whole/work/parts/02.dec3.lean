theorem dX12_size_34 : decode cX12_size 34 = .ok (.iastore, 1) := by decide +kernel
theorem dX12_size_35 : decode cX12_size 35 = .ok (.aload_n 0, 1) := by decide +kernel
theorem dX12_size_36 : decode cX12_size 36 = .ok (.dup, 1) := by decide +kernel
theorem dX12_size_37 : decode cX12_size 37 = .ok (.getfield 35, 3) := by decide +kernel
theorem dX12_size_40 : decode cX12_size 40 = .ok (.iconst 1, 1) := by decide +kernel
theorem dX12_size_41 : decode cX12_size 41 = .ok (.iadd, 1) := by decide +kernel
theorem dX12_size_42 : decode cX12_size 42 = .ok (.putfield 35, 3) := by decide +kernel
theorem dX12_size_45 : decode cX12_size 45 = .ok (.aload_n 0, 1) := by decide +kernel
theorem dX12_size_46 : decode cX12_size 46 = .ok (.getfield 35, 3) := by decide +kernel
theorem dX12_size_49 : decode cX12_size 49 = .ok (.ireturn, 1) := by decide +kernel
theorem dX12_isSolid_0 : decode cX12_isSolid 0 = .ok (.iload_n 1, 1) := by decide +kernel
theorem dX12_isSolid_1 : decode cX12_isSolid 1 = .ok (.iconst 1, 1) := by decide +kernel
theorem dX12_isSolid_2 : decode cX12_isSolid 2 = .ok (.if_icmp .lt 15, 3) := by decide +kernel
theorem dX12_isSolid_5 : decode cX12_isSolid 5 = .ok (.iload_n 1, 1) := by decide +kernel
theorem dX12_isSolid_6 : decode cX12_isSolid 6 = .ok (.aload_n 0, 1) := by decide +kernel
theorem dX12_isSolid_7 : decode cX12_isSolid 7 = .ok (.getfield 39, 3) := by decide +kernel
theorem dX12_isSolid_10 : decode cX12_isSolid 10 = .ok (.if_icmp .gt 7, 3) := by decide +kernel
theorem dX12_isSolid_13 : decode cX12_isSolid 13 = .ok (.iconst 1, 1) := by decide +kernel
theorem dX12_isSolid_14 : decode cX12_isSolid 14 = .ok (.goto 4, 3) := by decide +kernel
theorem dX12_isSolid_17 : decode cX12_isSolid 17 = .ok (.iconst 0, 1) := by decide +kernel
theorem dX12_isSolid_18 : decode cX12_isSolid 18 = .ok (.ireturn, 1) := by decide +kernel
theorem dX12_made_0 : decode cX12_made 0 = .ok (.aload_n 0, 1) := by decide +kernel
theorem dX12_made_1 : decode cX12_made 1 = .ok (.dup, 1) := by decide +kernel
theorem dX12_made_2 : decode cX12_made 2 = .ok (.getfield 39, 3) := by decide +kernel
theorem dX12_made_5 : decode cX12_made 5 = .ok (.iconst 1, 1) := by decide +kernel
theorem dX12_made_6 : decode cX12_made 6 = .ok (.iadd, 1) := by decide +kernel
theorem dX12_made_7 : decode cX12_made 7 = .ok (.putfield 39, 3) := by decide +kernel
theorem dX12_made_10 : decode cX12_made 10 = .ok (.aload_n 0, 1) := by decide +kernel
theorem dX12_made_11 : decode cX12_made 11 = .ok (.getfield 9, 3) := by decide +kernel
theorem dX12_made_14 : decode cX12_made 14 = .ok (.aload_n 0, 1) := by decide +kernel
theorem dX12_made_15 : decode cX12_made 15 = .ok (.getfield 39, 3) := by decide +kernel
theorem dX12_made_18 : decode cX12_made 18 = .ok (.iload_n 1, 1) := by decide +kernel
theorem dX12_made_19 : decode cX12_made 19 = .ok (.iastore, 1) := by decide +kernel
theorem dX12_made_20 : decode cX12_made 20 = .ok (.aload_n 0, 1) := by decide +kernel
theorem dX12_made_21 : decode cX12_made 21 = .ok (.getfield 16, 3) := by decide +kernel
theorem dX12_made_24 : decode cX12_made 24 = .ok (.aload_n 0, 1) := by decide +kernel
theorem dX12_made_25 : decode cX12_made 25 = .ok (.getfield 39, 3) := by decide +kernel
theorem dX12_made_28 : decode cX12_made 28 = .ok (.iload_n 2, 1) := by decide +kernel
theorem dX12_made_29 : decode cX12_made 29 = .ok (.iastore, 1) := by decide +kernel
theorem dX12_made_30 : decode cX12_made 30 = .ok (.iconst 0, 1) := by decide +kernel
theorem dX12_made_31 : decode cX12_made 31 = .ok (.istore_n 3, 1) := by decide +kernel
theorem dX12_made_32 : decode cX12_made 32 = .ok (.iload_n 3, 1) := by decide +kernel
theorem dX12_made_33 : decode cX12_made 33 = .ok (.bipush 6, 2) := by decide +kernel
theorem dX12_made_35 : decode cX12_made 35 = .ok (.if_icmp .ge 29, 3) := by decide +kernel
theorem dX12_made_38 : decode cX12_made 38 = .ok (.aload_n 0, 1) := by decide +kernel
theorem dX12_made_39 : decode cX12_made 39 = .ok (.getfield 13, 3) := by decide +kernel
theorem dX12_made_42 : decode cX12_made 42 = .ok (.bipush 6, 2) := by decide +kernel
theorem dX12_made_44 : decode cX12_made 44 = .ok (.aload_n 0, 1) := by decide +kernel
theorem dX12_made_45 : decode cX12_made 45 = .ok (.getfield 39, 3) := by decide +kernel
theorem dX12_made_48 : decode cX12_made 48 = .ok (.imul, 1) := by decide +kernel
theorem dX12_made_49 : decode cX12_made 49 = .ok (.iload_n 3, 1) := by decide +kernel
theorem dX12_made_50 : decode cX12_made 50 = .ok (.iadd, 1) := by decide +kernel
theorem dX12_made_51 : decode cX12_made 51 = .ok (.aload_n 0, 1) := by decide +kernel
theorem dX12_made_52 : decode cX12_made 52 = .ok (.getfield 19, 3) := by decide +kernel
theorem dX12_made_55 : decode cX12_made 55 = .ok (.iload_n 3, 1) := by decide +kernel
theorem dX12_made_56 : decode cX12_made 56 = .ok (.iaload, 1) := by decide +kernel
theorem dX12_made_57 : decode cX12_made 57 = .ok (.iastore, 1) := by decide +kernel
theorem dX12_made_58 : decode cX12_made 58 = .ok (.iinc 3 1, 3) := by decide +kernel
theorem dX12_made_61 : decode cX12_made 61 = .ok (.goto (-29), 3) := by decide +kernel
theorem dX12_made_64 : decode cX12_made 64 = .ok (.aload_n 0, 1) := by decide +kernel
theorem dX12_made_65 : decode cX12_made 65 = .ok (.getfield 39, 3) := by decide +kernel
theorem dX12_made_68 : decode cX12_made 68 = .ok (.ireturn, 1) := by decide +kernel
theorem dX12_number_0 : decode cX12_number 0 = .ok (.aload_n 0, 1) := by decide +kernel
theorem dX12_number_1 : decode cX12_number 1 = .ok (.getfield 13, 3) := by decide +kernel
theorem dX12_number_4 : decode cX12_number 4 = .ok (.bipush 6, 2) := by decide +kernel
theorem dX12_number_6 : decode cX12_number 6 = .ok (.iload_n 1, 1) := by decide +kernel
theorem dX12_number_7 : decode cX12_number 7 = .ok (.imul, 1) := by decide +kernel
theorem dX12_number_8 : decode cX12_number 8 = .ok (.iload_n 2, 1) := by decide +kernel
theorem dX12_number_9 : decode cX12_number 9 = .ok (.iadd, 1) := by decide +kernel
theorem dX12_number_10 : decode cX12_number 10 = .ok (.iaload, 1) := by decide +kernel
theorem dX12_number_11 : decode cX12_number 11 = .ok (.ireturn, 1) := by decide +kernel
theorem dX12_solid_0 : decode cX12_solid 0 = .ok (.aload_n 0, 1) := by decide +kernel
theorem dX12_solid_1 : decode cX12_solid 1 = .ok (.getfield 35, 3) := by decide +kernel
theorem dX12_solid_4 : decode cX12_solid 4 = .ok (.istore_n 2, 1) := by decide +kernel
theorem dX12_solid_5 : decode cX12_solid 5 = .ok (.aload_n 0, 1) := by decide +kernel
theorem dX12_solid_6 : decode cX12_solid 6 = .ok (.iconst 0, 1) := by decide +kernel
theorem dX12_solid_7 : decode cX12_solid 7 = .ok (.putfield 35, 3) := by decide +kernel
theorem dX12_solid_10 : decode cX12_solid 10 = .ok (.iload_n 1, 1) := by decide +kernel
theorem dX12_solid_11 : decode cX12_solid 11 = .ok (.ifCond .ne 8, 3) := by decide +kernel
theorem dX12_solid_14 : decode cX12_solid 14 = .ok (.bipush 6, 2) := by decide +kernel
theorem dX12_solid_16 : decode cX12_solid 16 = .ok (.goto 27, 3) := by decide +kernel
theorem dX12_solid_19 : decode cX12_solid 19 = .ok (.iload_n 1, 1) := by decide +kernel
theorem dX12_solid_20 : decode cX12_solid 20 = .ok (.iconst 1, 1) := by decide +kernel
theorem dX12_solid_21 : decode cX12_solid 21 = .ok (.if_icmp .eq 8, 3) := by decide +kernel
theorem dX12_solid_24 : decode cX12_solid 24 = .ok (.iload_n 1, 1) := by decide +kernel
theorem dX12_solid_25 : decode cX12_solid 25 = .ok (.iconst 3, 1) := by decide +kernel
theorem dX12_solid_26 : decode cX12_solid 26 = .ok (.if_icmp .ne 7, 3) := by decide +kernel
theorem dX12_solid_29 : decode cX12_solid 29 = .ok (.iconst 5, 1) := by decide +kernel
theorem dX12_solid_30 : decode cX12_solid 30 = .ok (.goto 13, 3) := by decide +kernel
theorem dX12_solid_33 : decode cX12_solid 33 = .ok (.iload_n 1, 1) := by decide +kernel
theorem dX12_solid_34 : decode cX12_solid 34 = .ok (.iconst 2, 1) := by decide +kernel
theorem dX12_solid_35 : decode cX12_solid 35 = .ok (.if_icmp .ne 7, 3) := by decide +kernel
theorem dX12_solid_38 : decode cX12_solid 38 = .ok (.iconst 4, 1) := by decide +kernel
theorem dX12_solid_39 : decode cX12_solid 39 = .ok (.goto 4, 3) := by decide +kernel
theorem dX12_solid_42 : decode cX12_solid 42 = .ok (.iconst (-1), 1) := by decide +kernel
theorem dX12_solid_43 : decode cX12_solid 43 = .ok (.istore_n 3, 1) := by decide +kernel
theorem dX12_solid_44 : decode cX12_solid 44 = .ok (.iload_n 2, 1) := by decide +kernel
theorem dX12_solid_45 : decode cX12_solid 45 = .ok (.iload_n 3, 1) := by decide +kernel
theorem dX12_solid_46 : decode cX12_solid 46 = .ok (.if_icmp .eq 5, 3) := by decide +kernel
theorem dX12_solid_49 : decode cX12_solid 49 = .ok (.iconst (-1), 1) := by decide +kernel
theorem dX12_solid_50 : decode cX12_solid 50 = .ok (.ireturn, 1) := by decide +kernel
theorem dX12_solid_51 : decode cX12_solid 51 = .ok (.iload_n 1, 1) := by decide +kernel
theorem dX12_solid_52 : decode cX12_solid 52 = .ok (.ifCond .le 23, 3) := by decide +kernel
theorem dX12_solid_55 : decode cX12_solid 55 = .ok (.aload_n 0, 1) := by decide +kernel
theorem dX12_solid_56 : decode cX12_solid 56 = .ok (.getfield 19, 3) := by decide +kernel
theorem dX12_solid_59 : decode cX12_solid 59 = .ok (.iload_n 1, 1) := by decide +kernel
theorem dX12_solid_60 : decode cX12_solid 60 = .ok (.iconst 2, 1) := by decide +kernel
theorem dX12_solid_61 : decode cX12_solid 61 = .ok (.if_icmp .ne 7, 3) := by decide +kernel
theorem dX12_solid_64 : decode cX12_solid 64 = .ok (.iconst 3, 1) := by decide +kernel
theorem dX12_solid_65 : decode cX12_solid 65 = .ok (.goto 4, 3) := by decide +kernel
theorem dX12_solid_68 : decode cX12_solid 68 = .ok (.iconst 2, 1) := by decide +kernel
theorem dX12_solid_69 : decode cX12_solid 69 = .ok (.iaload, 1) := by decide +kernel
theorem dX12_solid_70 : decode cX12_solid 70 = .ok (.ifCond .ge 5, 3) := by decide +kernel
theorem dX12_solid_73 : decode cX12_solid 73 = .ok (.iconst (-1), 1) := by decide +kernel
theorem dX12_solid_74 : decode cX12_solid 74 = .ok (.ireturn, 1) := by decide +kernel
theorem dX12_solid_75 : decode cX12_solid 75 = .ok (.aload_n 0, 1) := by decide +kernel
theorem dX12_solid_76 : decode cX12_solid 76 = .ok (.getfield 39, 3) := by decide +kernel
theorem dX12_solid_79 : decode cX12_solid 79 = .ok (.bipush 60, 2) := by decide +kernel
theorem dX12_solid_81 : decode cX12_solid 81 = .ok (.if_icmp .ne 8, 3) := by decide +kernel
theorem dX12_solid_84 : decode cX12_solid 84 = .ok (.bipush (-2), 2) := by decide +kernel
theorem dX12_solid_86 : decode cX12_solid 86 = .ok (.goto 9, 3) := by decide +kernel
theorem dX12_solid_89 : decode cX12_solid 89 = .ok (.aload_n 0, 1) := by decide +kernel
theorem dX12_solid_90 : decode cX12_solid 90 = .ok (.iload_n 1, 1) := by decide +kernel
theorem dX12_solid_91 : decode cX12_solid 91 = .ok (.iconst 1, 1) := by decide +kernel
theorem dX12_solid_92 : decode cX12_solid 92 = .ok (.invokevirtual 42, 3) := by decide +kernel
theorem dX12_solid_95 : decode cX12_solid 95 = .ok (.ireturn, 1) := by decide +kernel
theorem dX12_join_0 : decode cX12_join 0 = .ok (.aload_n 0, 1) := by decide +kernel
theorem dX12_join_1 : decode cX12_join 1 = .ok (.iload_n 1, 1) := by decide +kernel
theorem dX12_join_2 : decode cX12_join 2 = .ok (.invokevirtual 46, 3) := by decide +kernel
theorem dX12_join_5 : decode cX12_join 5 = .ok (.ifCond .eq 40, 3) := by decide +kernel
theorem dX12_join_8 : decode cX12_join 8 = .ok (.aload_n 0, 1) := by decide +kernel
theorem dX12_join_9 : decode cX12_join 9 = .ok (.iload_n 2, 1) := by decide +kernel
theorem dX12_join_10 : decode cX12_join 10 = .ok (.invokevirtual 46, 3) := by decide +kernel
theorem dX12_join_13 : decode cX12_join 13 = .ok (.ifCond .eq 32, 3) := by decide +kernel
theorem dX12_join_16 : decode cX12_join 16 = .ok (.iload_n 3, 1) := by decide +kernel
theorem dX12_join_17 : decode cX12_join 17 = .ok (.ifCond .lt 28, 3) := by decide +kernel
theorem dX12_join_20 : decode cX12_join 20 = .ok (.iload_n 3, 1) := by decide +kernel
theorem dX12_join_21 : decode cX12_join 21 = .ok (.iconst 2, 1) := by decide +kernel
theorem dX12_join_22 : decode cX12_join 22 = .ok (.if_icmp .gt 23, 3) := by decide +kernel
theorem dX12_join_25 : decode cX12_join 25 = .ok (.aload_n 0, 1) := by decide +kernel
theorem dX12_join_26 : decode cX12_join 26 = .ok (.getfield 16, 3) := by decide +kernel
theorem dX12_join_29 : decode cX12_join 29 = .ok (.iload_n 1, 1) := by decide +kernel
theorem dX12_join_30 : decode cX12_join 30 = .ok (.iaload, 1) := by decide +kernel
theorem dX12_join_31 : decode cX12_join 31 = .ok (.aload_n 0, 1) := by decide +kernel
theorem dX12_join_32 : decode cX12_join 32 = .ok (.getfield 16, 3) := by decide +kernel
theorem dX12_join_35 : decode cX12_join 35 = .ok (.iload_n 2, 1) := by decide +kernel
theorem dX12_join_36 : decode cX12_join 36 = .ok (.iaload, 1) := by decide +kernel
theorem dX12_join_37 : decode cX12_join 37 = .ok (.iadd, 1) := by decide +kernel
theorem dX12_join_38 : decode cX12_join 38 = .ok (.iconst 1, 1) := by decide +kernel
theorem dX12_join_39 : decode cX12_join 39 = .ok (.iadd, 1) := by decide +kernel
theorem dX12_join_40 : decode cX12_join 40 = .ok (.bipush 100, 2) := by decide +kernel
theorem dX12_join_42 : decode cX12_join 42 = .ok (.if_icmp .le 5, 3) := by decide +kernel
theorem dX12_join_45 : decode cX12_join 45 = .ok (.iconst (-1), 1) := by decide +kernel
theorem dX12_join_46 : decode cX12_join 46 = .ok (.ireturn, 1) := by decide +kernel
theorem dX12_join_47 : decode cX12_join 47 = .ok (.aload_n 0, 1) := by decide +kernel
theorem dX12_join_48 : decode cX12_join 48 = .ok (.getfield 39, 3) := by decide +kernel
theorem dX12_join_51 : decode cX12_join 51 = .ok (.bipush 60, 2) := by decide +kernel
theorem dX12_join_53 : decode cX12_join 53 = .ok (.if_icmp .ne 6, 3) := by decide +kernel
theorem dX12_join_56 : decode cX12_join 56 = .ok (.bipush (-2), 2) := by decide +kernel
theorem dX12_join_58 : decode cX12_join 58 = .ok (.ireturn, 1) := by decide +kernel
theorem dX12_join_59 : decode cX12_join 59 = .ok (.aload_n 0, 1) := by decide +kernel
theorem dX12_join_60 : decode cX12_join 60 = .ok (.iconst 4, 1) := by decide +kernel
theorem dX12_join_61 : decode cX12_join 61 = .ok (.aload_n 0, 1) := by decide +kernel
theorem dX12_join_62 : decode cX12_join 62 = .ok (.getfield 16, 3) := by decide +kernel
theorem dX12_join_65 : decode cX12_join 65 = .ok (.iload_n 1, 1) := by decide +kernel
theorem dX12_join_66 : decode cX12_join 66 = .ok (.iaload, 1) := by decide +kernel
theorem dX12_join_67 : decode cX12_join 67 = .ok (.aload_n 0, 1) := by decide +kernel
theorem dX12_join_68 : decode cX12_join 68 = .ok (.getfield 16, 3) := by decide +kernel
theorem dX12_join_71 : decode cX12_join 71 = .ok (.iload_n 2, 1) := by decide +kernel
theorem dX12_join_72 : decode cX12_join 72 = .ok (.iaload, 1) := by decide +kernel
theorem dX12_join_73 : decode cX12_join 73 = .ok (.iadd, 1) := by decide +kernel
theorem dX12_join_74 : decode cX12_join 74 = .ok (.iconst 1, 1) := by decide +kernel
theorem dX12_join_75 : decode cX12_join 75 = .ok (.iadd, 1) := by decide +kernel
theorem dX12_join_76 : decode cX12_join 76 = .ok (.invokevirtual 42, 3) := by decide +kernel
theorem dX12_join_79 : decode cX12_join 79 = .ok (.istore 4, 2) := by decide +kernel
theorem dX12_join_81 : decode cX12_join 81 = .ok (.aload_n 0, 1) := by decide +kernel
theorem dX12_join_82 : decode cX12_join 82 = .ok (.getfield 13, 3) := by decide +kernel
theorem dX12_join_85 : decode cX12_join 85 = .ok (.bipush 6, 2) := by decide +kernel
theorem dX12_join_87 : decode cX12_join 87 = .ok (.iload 4, 2) := by decide +kernel
theorem dX12_join_89 : decode cX12_join 89 = .ok (.imul, 1) := by decide +kernel
theorem dX12_join_90 : decode cX12_join 90 = .ok (.iload_n 1, 1) := by decide +kernel
theorem dX12_join_91 : decode cX12_join 91 = .ok (.iastore, 1) := by decide +kernel
theorem dX12_join_92 : decode cX12_join 92 = .ok (.aload_n 0, 1) := by decide +kernel
theorem dX12_join_93 : decode cX12_join 93 = .ok (.getfield 13, 3) := by decide +kernel
theorem dX12_join_96 : decode cX12_join 96 = .ok (.bipush 6, 2) := by decide +kernel
theorem dX12_join_98 : decode cX12_join 98 = .ok (.iload 4, 2) := by decide +kernel
theorem dX12_join_100 : decode cX12_join 100 = .ok (.imul, 1) := by decide +kernel
theorem dX12_join_101 : decode cX12_join 101 = .ok (.iconst 1, 1) := by decide +kernel
theorem dX12_join_102 : decode cX12_join 102 = .ok (.iadd, 1) := by decide +kernel
theorem dX12_join_103 : decode cX12_join 103 = .ok (.iload_n 2, 1) := by decide +kernel
theorem dX12_join_104 : decode cX12_join 104 = .ok (.iastore, 1) := by decide +kernel
theorem dX12_join_105 : decode cX12_join 105 = .ok (.aload_n 0, 1) := by decide +kernel
theorem dX12_join_106 : decode cX12_join 106 = .ok (.getfield 13, 3) := by decide +kernel
theorem dX12_join_109 : decode cX12_join 109 = .ok (.bipush 6, 2) := by decide +kernel
theorem dX12_join_111 : decode cX12_join 111 = .ok (.iload 4, 2) := by decide +kernel
theorem dX12_join_113 : decode cX12_join 113 = .ok (.imul, 1) := by decide +kernel
theorem dX12_join_114 : decode cX12_join 114 = .ok (.iconst 2, 1) := by decide +kernel
theorem dX12_join_115 : decode cX12_join 115 = .ok (.iadd, 1) := by decide +kernel
theorem dX12_join_116 : decode cX12_join 116 = .ok (.iload_n 3, 1) := by decide +kernel
theorem dX12_join_117 : decode cX12_join 117 = .ok (.iastore, 1) := by decide +kernel
theorem dX12_join_118 : decode cX12_join 118 = .ok (.iload 4, 2) := by decide +kernel
theorem dX12_join_120 : decode cX12_join 120 = .ok (.ireturn, 1) := by decide +kernel
theorem dX12_moved_0 : decode cX12_moved 0 = .ok (.aload_n 0, 1) := by decide +kernel
theorem dX12_moved_1 : decode cX12_moved 1 = .ok (.getfield 35, 3) := by decide +kernel
theorem dX12_moved_4 : decode cX12_moved 4 = .ok (.istore_n 2, 1) := by decide +kernel
theorem dX12_moved_5 : decode cX12_moved 5 = .ok (.aload_n 0, 1) := by decide +kernel
theorem dX12_moved_6 : decode cX12_moved 6 = .ok (.iconst 0, 1) := by decide +kernel
theorem dX12_moved_7 : decode cX12_moved 7 = .ok (.putfield 35, 3) := by decide +kernel
theorem dX12_moved_10 : decode cX12_moved 10 = .ok (.aload_n 0, 1) := by decide +kernel
theorem dX12_moved_11 : decode cX12_moved 11 = .ok (.iload_n 1, 1) := by decide +kernel
theorem dX12_moved_12 : decode cX12_moved 12 = .ok (.invokevirtual 46, 3) := by decide +kernel
theorem dX12_moved_15 : decode cX12_moved 15 = .ok (.ifCond .eq 19, 3) := by decide +kernel
theorem dX12_moved_18 : decode cX12_moved 18 = .ok (.iload_n 2, 1) := by decide +kernel
theorem dX12_moved_19 : decode cX12_moved 19 = .ok (.iconst 3, 1) := by decide +kernel
theorem dX12_moved_20 : decode cX12_moved 20 = .ok (.if_icmp .ne 14, 3) := by decide +kernel
theorem dX12_moved_23 : decode cX12_moved 23 = .ok (.aload_n 0, 1) := by decide +kernel
theorem dX12_moved_24 : decode cX12_moved 24 = .ok (.getfield 16, 3) := by decide +kernel
theorem dX12_moved_27 : decode cX12_moved 27 = .ok (.iload_n 1, 1) := by decide +kernel
theorem dX12_moved_28 : decode cX12_moved 28 = .ok (.iaload, 1) := by decide +kernel
theorem dX12_moved_29 : decode cX12_moved 29 = .ok (.bipush 100, 2) := by decide +kernel
theorem dX12_moved_31 : decode cX12_moved 31 = .ok (.if_icmp .ne 5, 3) := by decide +kernel
theorem dX12_moved_34 : decode cX12_moved 34 = .ok (.iconst (-1), 1) := by decide +kernel
theorem dX12_moved_35 : decode cX12_moved 35 = .ok (.ireturn, 1) := by decide +kernel
theorem dX12_moved_36 : decode cX12_moved 36 = .ok (.aload_n 0, 1) := by decide +kernel
theorem dX12_moved_37 : decode cX12_moved 37 = .ok (.getfield 39, 3) := by decide +kernel
theorem dX12_moved_40 : decode cX12_moved 40 = .ok (.bipush 60, 2) := by decide +kernel
theorem dX12_moved_42 : decode cX12_moved 42 = .ok (.if_icmp .ne 6, 3) := by decide +kernel
theorem dX12_moved_45 : decode cX12_moved 45 = .ok (.bipush (-2), 2) := by decide +kernel
theorem dX12_moved_47 : decode cX12_moved 47 = .ok (.ireturn, 1) := by decide +kernel
theorem dX12_moved_48 : decode cX12_moved 48 = .ok (.aload_n 0, 1) := by decide +kernel
theorem dX12_moved_49 : decode cX12_moved 49 = .ok (.iconst 5, 1) := by decide +kernel
theorem dX12_moved_50 : decode cX12_moved 50 = .ok (.aload_n 0, 1) := by decide +kernel
theorem dX12_moved_51 : decode cX12_moved 51 = .ok (.getfield 16, 3) := by decide +kernel
theorem dX12_moved_54 : decode cX12_moved 54 = .ok (.iload_n 1, 1) := by decide +kernel
theorem dX12_moved_55 : decode cX12_moved 55 = .ok (.iaload, 1) := by decide +kernel
theorem dX12_moved_56 : decode cX12_moved 56 = .ok (.iconst 1, 1) := by decide +kernel
theorem dX12_moved_57 : decode cX12_moved 57 = .ok (.iadd, 1) := by decide +kernel
theorem dX12_moved_58 : decode cX12_moved 58 = .ok (.invokevirtual 42, 3) := by decide +kernel
theorem dX12_moved_61 : decode cX12_moved 61 = .ok (.istore_n 3, 1) := by decide +kernel
theorem dX12_moved_62 : decode cX12_moved 62 = .ok (.aload_n 0, 1) := by decide +kernel
theorem dX12_moved_63 : decode cX12_moved 63 = .ok (.getfield 13, 3) := by decide +kernel
theorem dX12_moved_66 : decode cX12_moved 66 = .ok (.bipush 6, 2) := by decide +kernel
theorem dX12_moved_68 : decode cX12_moved 68 = .ok (.iload_n 3, 1) := by decide +kernel
theorem dX12_moved_69 : decode cX12_moved 69 = .ok (.imul, 1) := by decide +kernel
theorem dX12_moved_70 : decode cX12_moved 70 = .ok (.iconst 3, 1) := by decide +kernel
theorem dX12_moved_71 : decode cX12_moved 71 = .ok (.iadd, 1) := by decide +kernel
theorem dX12_moved_72 : decode cX12_moved 72 = .ok (.iload_n 1, 1) := by decide +kernel
theorem dX12_moved_73 : decode cX12_moved 73 = .ok (.iastore, 1) := by decide +kernel
theorem dX12_moved_74 : decode cX12_moved 74 = .ok (.iload_n 3, 1) := by decide +kernel
theorem dX12_moved_75 : decode cX12_moved 75 = .ok (.ireturn, 1) := by decide +kernel
theorem dX12_turned_0 : decode cX12_turned 0 = .ok (.aload_n 0, 1) := by decide +kernel
theorem dX12_turned_1 : decode cX12_turned 1 = .ok (.iload_n 1, 1) := by decide +kernel
theorem dX12_turned_2 : decode cX12_turned 2 = .ok (.invokevirtual 46, 3) := by decide +kernel
theorem dX12_turned_5 : decode cX12_turned 5 = .ok (.ifCond .eq 14, 3) := by decide +kernel
theorem dX12_turned_8 : decode cX12_turned 8 = .ok (.aload_n 0, 1) := by decide +kernel
theorem dX12_turned_9 : decode cX12_turned 9 = .ok (.getfield 16, 3) := by decide +kernel
theorem dX12_turned_12 : decode cX12_turned 12 = .ok (.iload_n 1, 1) := by decide +kernel
theorem dX12_turned_13 : decode cX12_turned 13 = .ok (.iaload, 1) := by decide +kernel
theorem dX12_turned_14 : decode cX12_turned 14 = .ok (.bipush 100, 2) := by decide +kernel
theorem dX12_turned_16 : decode cX12_turned 16 = .ok (.if_icmp .ne 5, 3) := by decide +kernel
theorem dX12_turned_19 : decode cX12_turned 19 = .ok (.iconst (-1), 1) := by decide +kernel
theorem dX12_turned_20 : decode cX12_turned 20 = .ok (.ireturn, 1) := by decide +kernel
theorem dX12_turned_21 : decode cX12_turned 21 = .ok (.aload_n 0, 1) := by decide +kernel
theorem dX12_turned_22 : decode cX12_turned 22 = .ok (.getfield 39, 3) := by decide +kernel
theorem dX12_turned_25 : decode cX12_turned 25 = .ok (.bipush 60, 2) := by decide +kernel
theorem dX12_turned_27 : decode cX12_turned 27 = .ok (.if_icmp .ne 6, 3) := by decide +kernel
theorem dX12_turned_30 : decode cX12_turned 30 = .ok (.bipush (-2), 2) := by decide +kernel
theorem dX12_turned_32 : decode cX12_turned 32 = .ok (.ireturn, 1) := by decide +kernel
theorem dX12_turned_33 : decode cX12_turned 33 = .ok (.aload_n 0, 1) := by decide +kernel
theorem dX12_turned_34 : decode cX12_turned 34 = .ok (.bipush 6, 2) := by decide +kernel
theorem dX12_turned_36 : decode cX12_turned 36 = .ok (.aload_n 0, 1) := by decide +kernel
theorem dX12_turned_37 : decode cX12_turned 37 = .ok (.getfield 16, 3) := by decide +kernel
theorem dX12_turned_40 : decode cX12_turned 40 = .ok (.iload_n 1, 1) := by decide +kernel
theorem dX12_turned_41 : decode cX12_turned 41 = .ok (.iaload, 1) := by decide +kernel
theorem dX12_turned_42 : decode cX12_turned 42 = .ok (.iconst 1, 1) := by decide +kernel
theorem dX12_turned_43 : decode cX12_turned 43 = .ok (.iadd, 1) := by decide +kernel
theorem dX12_turned_44 : decode cX12_turned 44 = .ok (.invokevirtual 42, 3) := by decide +kernel
theorem dX12_turned_47 : decode cX12_turned 47 = .ok (.istore_n 2, 1) := by decide +kernel
theorem dX12_turned_48 : decode cX12_turned 48 = .ok (.aload_n 0, 1) := by decide +kernel
theorem dX12_turned_49 : decode cX12_turned 49 = .ok (.getfield 13, 3) := by decide +kernel
theorem dX12_turned_52 : decode cX12_turned 52 = .ok (.bipush 6, 2) := by decide +kernel
theorem dX12_turned_54 : decode cX12_turned 54 = .ok (.iload_n 2, 1) := by decide +kernel
theorem dX12_turned_55 : decode cX12_turned 55 = .ok (.imul, 1) := by decide +kernel
theorem dX12_turned_56 : decode cX12_turned 56 = .ok (.iload_n 1, 1) := by decide +kernel
theorem dX12_turned_57 : decode cX12_turned 57 = .ok (.iastore, 1) := by decide +kernel
theorem dX12_turned_58 : decode cX12_turned 58 = .ok (.iload_n 2, 1) := by decide +kernel
theorem dX12_turned_59 : decode cX12_turned 59 = .ok (.ireturn, 1) := by decide +kernel
theorem dX12_square_0 : decode cX12_square 0 = .ok (.lload_n 0, 1) := by decide +kernel
theorem dX12_square_1 : decode cX12_square 1 = .ok (.lload_n 0, 1) := by decide +kernel
theorem dX12_square_2 : decode cX12_square 2 = .ok (.lmul, 1) := by decide +kernel
theorem dX12_square_3 : decode cX12_square 3 = .ok (.lreturn, 1) := by decide +kernel
theorem dX12_isInKind_0 : decode cX12_isInKind 0 = .ok (.aload_n 0, 1) := by decide +kernel
theorem dX12_isInKind_1 : decode cX12_isInKind 1 = .ok (.getfield 9, 3) := by decide +kernel
theorem dX12_isInKind_4 : decode cX12_isInKind 4 = .ok (.iload_n 1, 1) := by decide +kernel
theorem dX12_isInKind_5 : decode cX12_isInKind 5 = .ok (.iaload, 1) := by decide +kernel
theorem dX12_isInKind_6 : decode cX12_isInKind 6 = .ok (.ifCond .ne 85, 3) := by decide +kernel
theorem dX12_isInKind_9 : decode cX12_isInKind 9 = .ok (.lload_n 2, 1) := by decide +kernel
theorem dX12_isInKind_10 : decode cX12_isInKind 10 = .ok (.aload_n 0, 1) := by decide +kernel
theorem dX12_isInKind_11 : decode cX12_isInKind 11 = .ok (.iload_n 1, 1) := by decide +kernel
theorem dX12_isInKind_12 : decode cX12_isInKind 12 = .ok (.iconst 0, 1) := by decide +kernel
theorem dX12_isInKind_13 : decode cX12_isInKind 13 = .ok (.invokevirtual 50, 3) := by decide +kernel
theorem dX12_isInKind_16 : decode cX12_isInKind 16 = .ok (.i2l, 1) := by decide +kernel
theorem dX12_isInKind_17 : decode cX12_isInKind 17 = .ok (.lcmp, 1) := by decide +kernel
theorem dX12_isInKind_18 : decode cX12_isInKind 18 = .ok (.ifCond .lt 71, 3) := by decide +kernel
theorem dX12_isInKind_21 : decode cX12_isInKind 21 = .ok (.lload 4, 2) := by decide +kernel
theorem dX12_isInKind_23 : decode cX12_isInKind 23 = .ok (.aload_n 0, 1) := by decide +kernel
theorem dX12_isInKind_24 : decode cX12_isInKind 24 = .ok (.iload_n 1, 1) := by decide +kernel
theorem dX12_isInKind_25 : decode cX12_isInKind 25 = .ok (.iconst 1, 1) := by decide +kernel
theorem dX12_isInKind_26 : decode cX12_isInKind 26 = .ok (.invokevirtual 50, 3) := by decide +kernel
theorem dX12_isInKind_29 : decode cX12_isInKind 29 = .ok (.i2l, 1) := by decide +kernel
theorem dX12_isInKind_30 : decode cX12_isInKind 30 = .ok (.lcmp, 1) := by decide +kernel
theorem dX12_isInKind_31 : decode cX12_isInKind 31 = .ok (.ifCond .lt 58, 3) := by decide +kernel
theorem dX12_isInKind_34 : decode cX12_isInKind 34 = .ok (.lload 6, 2) := by decide +kernel
theorem dX12_isInKind_36 : decode cX12_isInKind 36 = .ok (.aload_n 0, 1) := by decide +kernel
theorem dX12_isInKind_37 : decode cX12_isInKind 37 = .ok (.iload_n 1, 1) := by decide +kernel
theorem dX12_isInKind_38 : decode cX12_isInKind 38 = .ok (.iconst 2, 1) := by decide +kernel
theorem dX12_isInKind_39 : decode cX12_isInKind 39 = .ok (.invokevirtual 50, 3) := by decide +kernel
theorem dX12_isInKind_42 : decode cX12_isInKind 42 = .ok (.i2l, 1) := by decide +kernel
theorem dX12_isInKind_43 : decode cX12_isInKind 43 = .ok (.lcmp, 1) := by decide +kernel
theorem dX12_isInKind_44 : decode cX12_isInKind 44 = .ok (.ifCond .lt 45, 3) := by decide +kernel
theorem dX12_isInKind_47 : decode cX12_isInKind 47 = .ok (.lload_n 2, 1) := by decide +kernel
theorem dX12_isInKind_48 : decode cX12_isInKind 48 = .ok (.aload_n 0, 1) := by decide +kernel
theorem dX12_isInKind_49 : decode cX12_isInKind 49 = .ok (.iload_n 1, 1) := by decide +kernel
theorem dX12_isInKind_50 : decode cX12_isInKind 50 = .ok (.iconst 3, 1) := by decide +kernel
theorem dX12_isInKind_51 : decode cX12_isInKind 51 = .ok (.invokevirtual 50, 3) := by decide +kernel
theorem dX12_isInKind_54 : decode cX12_isInKind 54 = .ok (.i2l, 1) := by decide +kernel
theorem dX12_isInKind_55 : decode cX12_isInKind 55 = .ok (.lcmp, 1) := by decide +kernel
theorem dX12_isInKind_56 : decode cX12_isInKind 56 = .ok (.ifCond .ge 33, 3) := by decide +kernel
theorem dX12_isInKind_59 : decode cX12_isInKind 59 = .ok (.lload 4, 2) := by decide +kernel
theorem dX12_isInKind_61 : decode cX12_isInKind 61 = .ok (.aload_n 0, 1) := by decide +kernel
theorem dX12_isInKind_62 : decode cX12_isInKind 62 = .ok (.iload_n 1, 1) := by decide +kernel
theorem dX12_isInKind_63 : decode cX12_isInKind 63 = .ok (.iconst 4, 1) := by decide +kernel
theorem dX12_isInKind_64 : decode cX12_isInKind 64 = .ok (.invokevirtual 50, 3) := by decide +kernel
theorem dX12_isInKind_67 : decode cX12_isInKind 67 = .ok (.i2l, 1) := by decide +kernel
theorem dX12_isInKind_68 : decode cX12_isInKind 68 = .ok (.lcmp, 1) := by decide +kernel
theorem dX12_isInKind_69 : decode cX12_isInKind 69 = .ok (.ifCond .ge 20, 3) := by decide +kernel
theorem dX12_isInKind_72 : decode cX12_isInKind 72 = .ok (.lload 6, 2) := by decide +kernel
theorem dX12_isInKind_74 : decode cX12_isInKind 74 = .ok (.aload_n 0, 1) := by decide +kernel
theorem dX12_isInKind_75 : decode cX12_isInKind 75 = .ok (.iload_n 1, 1) := by decide +kernel
theorem dX12_isInKind_76 : decode cX12_isInKind 76 = .ok (.iconst 5, 1) := by decide +kernel
theorem dX12_isInKind_77 : decode cX12_isInKind 77 = .ok (.invokevirtual 50, 3) := by decide +kernel
theorem dX12_isInKind_80 : decode cX12_isInKind 80 = .ok (.i2l, 1) := by decide +kernel
theorem dX12_isInKind_81 : decode cX12_isInKind 81 = .ok (.lcmp, 1) := by decide +kernel
theorem dX12_isInKind_82 : decode cX12_isInKind 82 = .ok (.ifCond .ge 7, 3) := by decide +kernel
theorem dX12_isInKind_85 : decode cX12_isInKind 85 = .ok (.iconst 1, 1) := by decide +kernel
theorem dX12_isInKind_86 : decode cX12_isInKind 86 = .ok (.goto 4, 3) := by decide +kernel
theorem dX12_isInKind_89 : decode cX12_isInKind 89 = .ok (.iconst 0, 1) := by decide +kernel
theorem dX12_isInKind_90 : decode cX12_isInKind 90 = .ok (.ireturn, 1) := by decide +kernel
theorem dX12_isInKind_91 : decode cX12_isInKind 91 = .ok (.lload_n 2, 1) := by decide +kernel
theorem dX12_isInKind_92 : decode cX12_isInKind 92 = .ok (.aload_n 0, 1) := by decide +kernel
theorem dX12_isInKind_93 : decode cX12_isInKind 93 = .ok (.iload_n 1, 1) := by decide +kernel
theorem dX12_isInKind_94 : decode cX12_isInKind 94 = .ok (.iconst 0, 1) := by decide +kernel
theorem dX12_isInKind_95 : decode cX12_isInKind 95 = .ok (.invokevirtual 50, 3) := by decide +kernel
theorem dX12_isInKind_98 : decode cX12_isInKind 98 = .ok (.i2l, 1) := by decide +kernel
theorem dX12_isInKind_99 : decode cX12_isInKind 99 = .ok (.lsub, 1) := by decide +kernel
theorem dX12_isInKind_100 : decode cX12_isInKind 100 = .ok (.invokestatic 53, 3) := by decide +kernel
theorem dX12_isInKind_103 : decode cX12_isInKind 103 = .ok (.lload 4, 2) := by decide +kernel
theorem dX12_isInKind_105 : decode cX12_isInKind 105 = .ok (.aload_n 0, 1) := by decide +kernel
theorem dX12_isInKind_106 : decode cX12_isInKind 106 = .ok (.iload_n 1, 1) := by decide +kernel
theorem dX12_isInKind_107 : decode cX12_isInKind 107 = .ok (.iconst 1, 1) := by decide +kernel
theorem dX12_isInKind_108 : decode cX12_isInKind 108 = .ok (.invokevirtual 50, 3) := by decide +kernel
theorem dX12_isInKind_111 : decode cX12_isInKind 111 = .ok (.i2l, 1) := by decide +kernel
theorem dX12_isInKind_112 : decode cX12_isInKind 112 = .ok (.lsub, 1) := by decide +kernel
theorem dX12_isInKind_113 : decode cX12_isInKind 113 = .ok (.invokestatic 53, 3) := by decide +kernel
theorem dX12_isInKind_116 : decode cX12_isInKind 116 = .ok (.ladd, 1) := by decide +kernel
theorem dX12_isInKind_117 : decode cX12_isInKind 117 = .ok (.lstore 8, 2) := by decide +kernel
theorem dX12_isInKind_119 : decode cX12_isInKind 119 = .ok (.aload_n 0, 1) := by decide +kernel
theorem dX12_isInKind_120 : decode cX12_isInKind 120 = .ok (.getfield 9, 3) := by decide +kernel
theorem dX12_isInKind_123 : decode cX12_isInKind 123 = .ok (.iload_n 1, 1) := by decide +kernel
theorem dX12_isInKind_124 : decode cX12_isInKind 124 = .ok (.iaload, 1) := by decide +kernel
theorem dX12_isInKind_125 : decode cX12_isInKind 125 = .ok (.iconst 2, 1) := by decide +kernel
theorem dX12_isInKind_126 : decode cX12_isInKind 126 = .ok (.if_icmp .ne 39, 3) := by decide +kernel
theorem dX12_isInKind_129 : decode cX12_isInKind 129 = .ok (.lload 8, 2) := by decide +kernel
theorem dX12_isInKind_131 : decode cX12_isInKind 131 = .ok (.lload 6, 2) := by decide +kernel
theorem dX12_isInKind_133 : decode cX12_isInKind 133 = .ok (.aload_n 0, 1) := by decide +kernel
theorem dX12_isInKind_134 : decode cX12_isInKind 134 = .ok (.iload_n 1, 1) := by decide +kernel
theorem dX12_isInKind_135 : decode cX12_isInKind 135 = .ok (.iconst 2, 1) := by decide +kernel
theorem dX12_isInKind_136 : decode cX12_isInKind 136 = .ok (.invokevirtual 50, 3) := by decide +kernel
theorem dX12_isInKind_139 : decode cX12_isInKind 139 = .ok (.i2l, 1) := by decide +kernel
theorem dX12_isInKind_140 : decode cX12_isInKind 140 = .ok (.lsub, 1) := by decide +kernel
theorem dX12_isInKind_141 : decode cX12_isInKind 141 = .ok (.invokestatic 53, 3) := by decide +kernel
theorem dX12_isInKind_144 : decode cX12_isInKind 144 = .ok (.ladd, 1) := by decide +kernel
theorem dX12_isInKind_145 : decode cX12_isInKind 145 = .ok (.aload_n 0, 1) := by decide +kernel
theorem dX12_isInKind_146 : decode cX12_isInKind 146 = .ok (.iload_n 1, 1) := by decide +kernel
theorem dX12_isInKind_147 : decode cX12_isInKind 147 = .ok (.iconst 3, 1) := by decide +kernel
theorem dX12_isInKind_148 : decode cX12_isInKind 148 = .ok (.invokevirtual 50, 3) := by decide +kernel
theorem dX12_isInKind_151 : decode cX12_isInKind 151 = .ok (.i2l, 1) := by decide +kernel
theorem dX12_isInKind_152 : decode cX12_isInKind 152 = .ok (.invokestatic 53, 3) := by decide +kernel
theorem dX12_isInKind_155 : decode cX12_isInKind 155 = .ok (.lcmp, 1) := by decide +kernel
theorem dX12_isInKind_156 : decode cX12_isInKind 156 = .ok (.ifCond .gt 7, 3) := by decide +kernel
theorem dX12_isInKind_159 : decode cX12_isInKind 159 = .ok (.iconst 1, 1) := by decide +kernel
theorem dX12_isInKind_160 : decode cX12_isInKind 160 = .ok (.goto 4, 3) := by decide +kernel
theorem dX12_isInKind_163 : decode cX12_isInKind 163 = .ok (.iconst 0, 1) := by decide +kernel
theorem dX12_isInKind_164 : decode cX12_isInKind 164 = .ok (.ireturn, 1) := by decide +kernel
theorem dX12_isInKind_165 : decode cX12_isInKind 165 = .ok (.aload_n 0, 1) := by decide +kernel
theorem dX12_isInKind_166 : decode cX12_isInKind 166 = .ok (.iload_n 1, 1) := by decide +kernel
theorem dX12_isInKind_167 : decode cX12_isInKind 167 = .ok (.iconst 2, 1) := by decide +kernel
theorem dX12_isInKind_168 : decode cX12_isInKind 168 = .ok (.invokevirtual 50, 3) := by decide +kernel
theorem dX12_isInKind_171 : decode cX12_isInKind 171 = .ok (.i2l, 1) := by decide +kernel
theorem dX12_isInKind_172 : decode cX12_isInKind 172 = .ok (.lstore 10, 2) := by decide +kernel
theorem dX12_isInKind_174 : decode cX12_isInKind 174 = .ok (.lload 6, 2) := by decide +kernel
theorem dX12_isInKind_176 : decode cX12_isInKind 176 = .ok (.aload_n 0, 1) := by decide +kernel
theorem dX12_isInKind_177 : decode cX12_isInKind 177 = .ok (.iload_n 1, 1) := by decide +kernel
theorem dX12_isInKind_178 : decode cX12_isInKind 178 = .ok (.iconst 3, 1) := by decide +kernel
theorem dX12_isInKind_179 : decode cX12_isInKind 179 = .ok (.invokevirtual 50, 3) := by decide +kernel
theorem dX12_isInKind_182 : decode cX12_isInKind 182 = .ok (.i2l, 1) := by decide +kernel
theorem dX12_isInKind_183 : decode cX12_isInKind 183 = .ok (.lcmp, 1) := by decide +kernel
theorem dX12_isInKind_184 : decode cX12_isInKind 184 = .ok (.ifCond .lt 27, 3) := by decide +kernel
theorem dX12_isInKind_187 : decode cX12_isInKind 187 = .ok (.lload 6, 2) := by decide +kernel
theorem dX12_isInKind_189 : decode cX12_isInKind 189 = .ok (.aload_n 0, 1) := by decide +kernel
theorem dX12_isInKind_190 : decode cX12_isInKind 190 = .ok (.iload_n 1, 1) := by decide +kernel
theorem dX12_isInKind_191 : decode cX12_isInKind 191 = .ok (.iconst 4, 1) := by decide +kernel
theorem dX12_isInKind_192 : decode cX12_isInKind 192 = .ok (.invokevirtual 50, 3) := by decide +kernel
theorem dX12_isInKind_195 : decode cX12_isInKind 195 = .ok (.i2l, 1) := by decide +kernel
theorem dX12_isInKind_196 : decode cX12_isInKind 196 = .ok (.lcmp, 1) := by decide +kernel
theorem dX12_isInKind_197 : decode cX12_isInKind 197 = .ok (.ifCond .ge 14, 3) := by decide +kernel
theorem dX12_isInKind_200 : decode cX12_isInKind 200 = .ok (.lload 8, 2) := by decide +kernel
theorem dX12_isInKind_202 : decode cX12_isInKind 202 = .ok (.lload 10, 2) := by decide +kernel
theorem dX12_isInKind_204 : decode cX12_isInKind 204 = .ok (.lload 10, 2) := by decide +kernel
theorem dX12_isInKind_206 : decode cX12_isInKind 206 = .ok (.lmul, 1) := by decide +kernel
theorem dX12_isInKind_207 : decode cX12_isInKind 207 = .ok (.lcmp, 1) := by decide +kernel
theorem dX12_isInKind_208 : decode cX12_isInKind 208 = .ok (.ifCond .le 5, 3) := by decide +kernel
theorem dX12_isInKind_211 : decode cX12_isInKind 211 = .ok (.iconst 0, 1) := by decide +kernel
theorem dX12_isInKind_212 : decode cX12_isInKind 212 = .ok (.ireturn, 1) := by decide +kernel
theorem dX12_isInKind_213 : decode cX12_isInKind 213 = .ok (.aload_n 0, 1) := by decide +kernel
theorem dX12_isInKind_214 : decode cX12_isInKind 214 = .ok (.getfield 9, 3) := by decide +kernel
theorem dX12_isInKind_217 : decode cX12_isInKind 217 = .ok (.iload_n 1, 1) := by decide +kernel
theorem dX12_isInKind_218 : decode cX12_isInKind 218 = .ok (.iaload, 1) := by decide +kernel
theorem dX12_isInKind_219 : decode cX12_isInKind 219 = .ok (.iconst 1, 1) := by decide +kernel
theorem dX12_isInKind_220 : decode cX12_isInKind 220 = .ok (.if_icmp .eq 46, 3) := by decide +kernel
theorem dX12_isInKind_223 : decode cX12_isInKind 223 = .ok (.lload 8, 2) := by decide +kernel
theorem dX12_isInKind_225 : decode cX12_isInKind 225 = .ok (.aload_n 0, 1) := by decide +kernel
theorem dX12_isInKind_226 : decode cX12_isInKind 226 = .ok (.iload_n 1, 1) := by decide +kernel
theorem dX12_isInKind_227 : decode cX12_isInKind 227 = .ok (.iconst 4, 1) := by decide +kernel
theorem dX12_isInKind_228 : decode cX12_isInKind 228 = .ok (.invokevirtual 50, 3) := by decide +kernel
theorem dX12_isInKind_231 : decode cX12_isInKind 231 = .ok (.aload_n 0, 1) := by decide +kernel
theorem dX12_isInKind_232 : decode cX12_isInKind 232 = .ok (.iload_n 1, 1) := by decide +kernel
theorem dX12_isInKind_233 : decode cX12_isInKind 233 = .ok (.iconst 3, 1) := by decide +kernel
theorem dX12_isInKind_234 : decode cX12_isInKind 234 = .ok (.invokevirtual 50, 3) := by decide +kernel
theorem dX12_isInKind_237 : decode cX12_isInKind 237 = .ok (.isub, 1) := by decide +kernel
theorem dX12_isInKind_238 : decode cX12_isInKind 238 = .ok (.i2l, 1) := by decide +kernel
theorem dX12_isInKind_239 : decode cX12_isInKind 239 = .ok (.invokestatic 53, 3) := by decide +kernel
theorem dX12_isInKind_242 : decode cX12_isInKind 242 = .ok (.lmul, 1) := by decide +kernel
theorem dX12_isInKind_243 : decode cX12_isInKind 243 = .ok (.lload 10, 2) := by decide +kernel
theorem dX12_isInKind_245 : decode cX12_isInKind 245 = .ok (.lload 10, 2) := by decide +kernel
theorem dX12_isInKind_247 : decode cX12_isInKind 247 = .ok (.lmul, 1) := by decide +kernel
theorem dX12_isInKind_248 : decode cX12_isInKind 248 = .ok (.aload_n 0, 1) := by decide +kernel
theorem dX12_isInKind_249 : decode cX12_isInKind 249 = .ok (.iload_n 1, 1) := by decide +kernel
theorem dX12_isInKind_250 : decode cX12_isInKind 250 = .ok (.iconst 4, 1) := by decide +kernel
theorem dX12_isInKind_251 : decode cX12_isInKind 251 = .ok (.invokevirtual 50, 3) := by decide +kernel
theorem dX12_isInKind_254 : decode cX12_isInKind 254 = .ok (.i2l, 1) := by decide +kernel
theorem dX12_isInKind_255 : decode cX12_isInKind 255 = .ok (.lload 6, 2) := by decide +kernel
theorem dX12_isInKind_257 : decode cX12_isInKind 257 = .ok (.lsub, 1) := by decide +kernel
theorem dX12_isInKind_258 : decode cX12_isInKind 258 = .ok (.invokestatic 53, 3) := by decide +kernel
theorem dX12_isInKind_261 : decode cX12_isInKind 261 = .ok (.lmul, 1) := by decide +kernel
theorem dX12_isInKind_262 : decode cX12_isInKind 262 = .ok (.lcmp, 1) := by decide +kernel
theorem dX12_isInKind_263 : decode cX12_isInKind 263 = .ok (.ifCond .gt 7, 3) := by decide +kernel
theorem dX12_isInKind_266 : decode cX12_isInKind 266 = .ok (.iconst 1, 1) := by decide +kernel
theorem dX12_isInKind_267 : decode cX12_isInKind 267 = .ok (.goto 4, 3) := by decide +kernel
theorem dX12_isInKind_270 : decode cX12_isInKind 270 = .ok (.iconst 0, 1) := by decide +kernel
theorem dX12_isInKind_271 : decode cX12_isInKind 271 = .ok (.ireturn, 1) := by decide +kernel
theorem dX12_isIn_0 : decode cX12_isIn 0 = .ok (.aload_n 0, 1) := by decide +kernel
theorem dX12_isIn_1 : decode cX12_isIn 1 = .ok (.getfield 9, 3) := by decide +kernel
theorem dX12_isIn_4 : decode cX12_isIn 4 = .ok (.iload_n 1, 1) := by decide +kernel
theorem dX12_isIn_5 : decode cX12_isIn 5 = .ok (.iaload, 1) := by decide +kernel
theorem dX12_isIn_6 : decode cX12_isIn 6 = .ok (.tableswitch 188 4 6 #[26, 131, 171], 26) := by decide +kernel
theorem dX12_isIn_32 : decode cX12_isIn 32 = .ok (.aload_n 0, 1) := by decide +kernel
theorem dX12_isIn_33 : decode cX12_isIn 33 = .ok (.aload_n 0, 1) := by decide +kernel
theorem dX12_isIn_34 : decode cX12_isIn 34 = .ok (.iload_n 1, 1) := by decide +kernel
theorem dX12_isIn_35 : decode cX12_isIn 35 = .ok (.iconst 0, 1) := by decide +kernel
theorem dX12_isIn_36 : decode cX12_isIn 36 = .ok (.invokevirtual 50, 3) := by decide +kernel
theorem dX12_isIn_39 : decode cX12_isIn 39 = .ok (.lload_n 2, 1) := by decide +kernel
theorem dX12_isIn_40 : decode cX12_isIn 40 = .ok (.lload 4, 2) := by decide +kernel
theorem dX12_isIn_42 : decode cX12_isIn 42 = .ok (.lload 6, 2) := by decide +kernel
theorem dX12_isIn_44 : decode cX12_isIn 44 = .ok (.invokevirtual 57, 3) := by decide +kernel
theorem dX12_isIn_47 : decode cX12_isIn 47 = .ok (.istore 8, 2) := by decide +kernel
theorem dX12_isIn_49 : decode cX12_isIn 49 = .ok (.aload_n 0, 1) := by decide +kernel
theorem dX12_isIn_50 : decode cX12_isIn 50 = .ok (.aload_n 0, 1) := by decide +kernel
theorem dX12_isIn_51 : decode cX12_isIn 51 = .ok (.iload_n 1, 1) := by decide +kernel
theorem dX12_isIn_52 : decode cX12_isIn 52 = .ok (.iconst 1, 1) := by decide +kernel
theorem dX12_isIn_53 : decode cX12_isIn 53 = .ok (.invokevirtual 50, 3) := by decide +kernel
theorem dX12_isIn_56 : decode cX12_isIn 56 = .ok (.lload_n 2, 1) := by decide +kernel
theorem dX12_isIn_57 : decode cX12_isIn 57 = .ok (.lload 4, 2) := by decide +kernel
theorem dX12_isIn_59 : decode cX12_isIn 59 = .ok (.lload 6, 2) := by decide +kernel
theorem dX12_isIn_61 : decode cX12_isIn 61 = .ok (.invokevirtual 57, 3) := by decide +kernel
theorem dX12_isIn_64 : decode cX12_isIn 64 = .ok (.istore 9, 2) := by decide +kernel
theorem dX12_isIn_66 : decode cX12_isIn 66 = .ok (.aload_n 0, 1) := by decide +kernel
theorem dX12_isIn_67 : decode cX12_isIn 67 = .ok (.iload_n 1, 1) := by decide +kernel
theorem dX12_isIn_68 : decode cX12_isIn 68 = .ok (.iconst 2, 1) := by decide +kernel
theorem dX12_isIn_69 : decode cX12_isIn 69 = .ok (.invokevirtual 50, 3) := by decide +kernel
theorem dX12_isIn_72 : decode cX12_isIn 72 = .ok (.ifCond .ne 21, 3) := by decide +kernel
theorem dX12_isIn_75 : decode cX12_isIn 75 = .ok (.iload 8, 2) := by decide +kernel
theorem dX12_isIn_77 : decode cX12_isIn 77 = .ok (.ifCond .ne 8, 3) := by decide +kernel
theorem dX12_isIn_80 : decode cX12_isIn 80 = .ok (.iload 9, 2) := by decide +kernel
theorem dX12_isIn_82 : decode cX12_isIn 82 = .ok (.ifCond .eq 7, 3) := by decide +kernel
theorem dX12_isIn_85 : decode cX12_isIn 85 = .ok (.iconst 1, 1) := by decide +kernel
theorem dX12_isIn_86 : decode cX12_isIn 86 = .ok (.goto 50, 3) := by decide +kernel
theorem dX12_isIn_89 : decode cX12_isIn 89 = .ok (.iconst 0, 1) := by decide +kernel
theorem dX12_isIn_90 : decode cX12_isIn 90 = .ok (.goto 46, 3) := by decide +kernel
theorem dX12_isIn_93 : decode cX12_isIn 93 = .ok (.aload_n 0, 1) := by decide +kernel
theorem dX12_isIn_94 : decode cX12_isIn 94 = .ok (.iload_n 1, 1) := by decide +kernel
theorem dX12_isIn_95 : decode cX12_isIn 95 = .ok (.iconst 2, 1) := by decide +kernel
theorem dX12_isIn_96 : decode cX12_isIn 96 = .ok (.invokevirtual 50, 3) := by decide +kernel
theorem dX12_isIn_99 : decode cX12_isIn 99 = .ok (.iconst 1, 1) := by decide +kernel
theorem dX12_isIn_100 : decode cX12_isIn 100 = .ok (.if_icmp .ne 21, 3) := by decide +kernel
theorem dX12_isIn_103 : decode cX12_isIn 103 = .ok (.iload 8, 2) := by decide +kernel
theorem dX12_isIn_105 : decode cX12_isIn 105 = .ok (.ifCond .eq 12, 3) := by decide +kernel
theorem dX12_isIn_108 : decode cX12_isIn 108 = .ok (.iload 9, 2) := by decide +kernel
theorem dX12_isIn_110 : decode cX12_isIn 110 = .ok (.ifCond .eq 7, 3) := by decide +kernel
theorem dX12_isIn_113 : decode cX12_isIn 113 = .ok (.iconst 1, 1) := by decide +kernel
theorem dX12_isIn_114 : decode cX12_isIn 114 = .ok (.goto 22, 3) := by decide +kernel
theorem dX12_isIn_117 : decode cX12_isIn 117 = .ok (.iconst 0, 1) := by decide +kernel
theorem dX12_isIn_118 : decode cX12_isIn 118 = .ok (.goto 18, 3) := by decide +kernel
theorem dX12_isIn_121 : decode cX12_isIn 121 = .ok (.iload 8, 2) := by decide +kernel
theorem dX12_isIn_123 : decode cX12_isIn 123 = .ok (.ifCond .eq 12, 3) := by decide +kernel
theorem dX12_isIn_126 : decode cX12_isIn 126 = .ok (.iload 9, 2) := by decide +kernel
theorem dX12_isIn_128 : decode cX12_isIn 128 = .ok (.ifCond .ne 7, 3) := by decide +kernel
theorem dX12_isIn_131 : decode cX12_isIn 131 = .ok (.iconst 1, 1) := by decide +kernel
theorem dX12_isIn_132 : decode cX12_isIn 132 = .ok (.goto 4, 3) := by decide +kernel
theorem dX12_isIn_135 : decode cX12_isIn 135 = .ok (.iconst 0, 1) := by decide +kernel
theorem dX12_isIn_136 : decode cX12_isIn 136 = .ok (.ireturn, 1) := by decide +kernel
theorem dX12_isIn_137 : decode cX12_isIn 137 = .ok (.aload_n 0, 1) := by decide +kernel
theorem dX12_isIn_138 : decode cX12_isIn 138 = .ok (.aload_n 0, 1) := by decide +kernel
theorem dX12_isIn_139 : decode cX12_isIn 139 = .ok (.iload_n 1, 1) := by decide +kernel
theorem dX12_isIn_140 : decode cX12_isIn 140 = .ok (.iconst 3, 1) := by decide +kernel
theorem dX12_isIn_141 : decode cX12_isIn 141 = .ok (.invokevirtual 50, 3) := by decide +kernel
theorem dX12_isIn_144 : decode cX12_isIn 144 = .ok (.lload_n 2, 1) := by decide +kernel
theorem dX12_isIn_145 : decode cX12_isIn 145 = .ok (.aload_n 0, 1) := by decide +kernel
theorem dX12_isIn_146 : decode cX12_isIn 146 = .ok (.iload_n 1, 1) := by decide +kernel
theorem dX12_isIn_147 : decode cX12_isIn 147 = .ok (.iconst 0, 1) := by decide +kernel
theorem dX12_isIn_148 : decode cX12_isIn 148 = .ok (.invokevirtual 50, 3) := by decide +kernel
theorem dX12_isIn_151 : decode cX12_isIn 151 = .ok (.i2l, 1) := by decide +kernel
theorem dX12_isIn_152 : decode cX12_isIn 152 = .ok (.lsub, 1) := by decide +kernel
theorem dX12_isIn_153 : decode cX12_isIn 153 = .ok (.lload 4, 2) := by decide +kernel
theorem dX12_isIn_155 : decode cX12_isIn 155 = .ok (.aload_n 0, 1) := by decide +kernel
theorem dX12_isIn_156 : decode cX12_isIn 156 = .ok (.iload_n 1, 1) := by decide +kernel
theorem dX12_isIn_157 : decode cX12_isIn 157 = .ok (.iconst 1, 1) := by decide +kernel
theorem dX12_isIn_158 : decode cX12_isIn 158 = .ok (.invokevirtual 50, 3) := by decide +kernel
theorem dX12_isIn_161 : decode cX12_isIn 161 = .ok (.i2l, 1) := by decide +kernel
theorem dX12_isIn_162 : decode cX12_isIn 162 = .ok (.lsub, 1) := by decide +kernel
theorem dX12_isIn_163 : decode cX12_isIn 163 = .ok (.lload 6, 2) := by decide +kernel
theorem dX12_isIn_165 : decode cX12_isIn 165 = .ok (.aload_n 0, 1) := by decide +kernel
theorem dX12_isIn_166 : decode cX12_isIn 166 = .ok (.iload_n 1, 1) := by decide +kernel
theorem dX12_isIn_167 : decode cX12_isIn 167 = .ok (.iconst 2, 1) := by decide +kernel
theorem dX12_isIn_168 : decode cX12_isIn 168 = .ok (.invokevirtual 50, 3) := by decide +kernel
theorem dX12_isIn_171 : decode cX12_isIn 171 = .ok (.i2l, 1) := by decide +kernel
theorem dX12_isIn_172 : decode cX12_isIn 172 = .ok (.lsub, 1) := by decide +kernel
theorem dX12_isIn_173 : decode cX12_isIn 173 = .ok (.invokevirtual 57, 3) := by decide +kernel
theorem dX12_isIn_176 : decode cX12_isIn 176 = .ok (.ireturn, 1) := by decide +kernel
theorem dX12_isIn_177 : decode cX12_isIn 177 = .ok (.aload_n 0, 1) := by decide +kernel
theorem dX12_isIn_178 : decode cX12_isIn 178 = .ok (.aload_n 0, 1) := by decide +kernel
theorem dX12_isIn_179 : decode cX12_isIn 179 = .ok (.iload_n 1, 1) := by decide +kernel
theorem dX12_isIn_180 : decode cX12_isIn 180 = .ok (.iconst 0, 1) := by decide +kernel
theorem dX12_isIn_181 : decode cX12_isIn 181 = .ok (.invokevirtual 50, 3) := by decide +kernel
theorem dX12_isIn_184 : decode cX12_isIn 184 = .ok (.lload 4, 2) := by decide +kernel
theorem dX12_isIn_186 : decode cX12_isIn 186 = .ok (.lload_n 2, 1) := by decide +kernel
theorem dX12_isIn_187 : decode cX12_isIn 187 = .ok (.lneg, 1) := by decide +kernel
theorem dX12_isIn_188 : decode cX12_isIn 188 = .ok (.lload 6, 2) := by decide +kernel
theorem dX12_isIn_190 : decode cX12_isIn 190 = .ok (.invokevirtual 57, 3) := by decide +kernel
theorem dX12_isIn_193 : decode cX12_isIn 193 = .ok (.ireturn, 1) := by decide +kernel
theorem dX12_isIn_194 : decode cX12_isIn 194 = .ok (.aload_n 0, 1) := by decide +kernel
theorem dX12_isIn_195 : decode cX12_isIn 195 = .ok (.iload_n 1, 1) := by decide +kernel
theorem dX12_isIn_196 : decode cX12_isIn 196 = .ok (.lload_n 2, 1) := by decide +kernel
theorem dX12_isIn_197 : decode cX12_isIn 197 = .ok (.lload 4, 2) := by decide +kernel
theorem dX12_isIn_199 : decode cX12_isIn 199 = .ok (.lload 6, 2) := by decide +kernel
theorem dX12_isIn_201 : decode cX12_isIn 201 = .ok (.invokevirtual 61, 3) := by decide +kernel
theorem dX12_isIn_204 : decode cX12_isIn 204 = .ok (.ireturn, 1) := by decide +kernel
theorem dX12_isNear_0 : decode cX12_isNear 0 = .ok (.iload_n 0, 1) := by decide +kernel
theorem dX12_isNear_1 : decode cX12_isNear 1 = .ok (.ldc 64, 2) := by decide +kernel
theorem dX12_isNear_3 : decode cX12_isNear 3 = .ok (.if_icmp .lt 13, 3) := by decide +kernel
theorem dX12_isNear_6 : decode cX12_isNear 6 = .ok (.iload_n 0, 1) := by decide +kernel
theorem dX12_isNear_7 : decode cX12_isNear 7 = .ok (.ldc 65, 2) := by decide +kernel
theorem dX12_isNear_9 : decode cX12_isNear 9 = .ok (.if_icmp .gt 7, 3) := by decide +kernel
theorem dX12_isNear_12 : decode cX12_isNear 12 = .ok (.iconst 1, 1) := by decide +kernel
theorem dX12_isNear_13 : decode cX12_isNear 13 = .ok (.goto 4, 3) := by decide +kernel
theorem dX12_isNear_16 : decode cX12_isNear 16 = .ok (.iconst 0, 1) := by decide +kernel
theorem dX12_isNear_17 : decode cX12_isNear 17 = .ok (.ireturn, 1) := by decide +kernel
theorem dX12_inside_0 : decode cX12_inside 0 = .ok (.aload_n 0, 1) := by decide +kernel
theorem dX12_inside_1 : decode cX12_inside 1 = .ok (.iload_n 1, 1) := by decide +kernel
theorem dX12_inside_2 : decode cX12_inside 2 = .ok (.invokevirtual 46, 3) := by decide +kernel
theorem dX12_inside_5 : decode cX12_inside 5 = .ok (.ifCond .eq 44, 3) := by decide +kernel
theorem dX12_inside_8 : decode cX12_inside 8 = .ok (.iload_n 2, 1) := by decide +kernel
theorem dX12_inside_9 : decode cX12_inside 9 = .ok (.invokestatic 66, 3) := by decide +kernel
theorem dX12_inside_12 : decode cX12_inside 12 = .ok (.ifCond .eq 37, 3) := by decide +kernel
theorem dX12_inside_15 : decode cX12_inside 15 = .ok (.iload_n 3, 1) := by decide +kernel
theorem dX12_inside_16 : decode cX12_inside 16 = .ok (.invokestatic 66, 3) := by decide +kernel
theorem dX12_inside_19 : decode cX12_inside 19 = .ok (.ifCond .eq 30, 3) := by decide +kernel
theorem dX12_inside_22 : decode cX12_inside 22 = .ok (.iload 4, 2) := by decide +kernel
theorem dX12_inside_24 : decode cX12_inside 24 = .ok (.invokestatic 66, 3) := by decide +kernel
theorem dX12_inside_27 : decode cX12_inside 27 = .ok (.ifCond .eq 22, 3) := by decide +kernel
theorem dX12_inside_30 : decode cX12_inside 30 = .ok (.aload_n 0, 1) := by decide +kernel
theorem dX12_inside_31 : decode cX12_inside 31 = .ok (.iload_n 1, 1) := by decide +kernel
theorem dX12_inside_32 : decode cX12_inside 32 = .ok (.iload_n 2, 1) := by decide +kernel
theorem dX12_inside_33 : decode cX12_inside 33 = .ok (.i2l, 1) := by decide +kernel
theorem dX12_inside_34 : decode cX12_inside 34 = .ok (.iload_n 3, 1) := by decide +kernel
theorem dX12_inside_35 : decode cX12_inside 35 = .ok (.i2l, 1) := by decide +kernel
theorem dX12_inside_36 : decode cX12_inside 36 = .ok (.iload 4, 2) := by decide +kernel
theorem dX12_inside_38 : decode cX12_inside 38 = .ok (.i2l, 1) := by decide +kernel
theorem dX12_inside_39 : decode cX12_inside 39 = .ok (.invokevirtual 57, 3) := by decide +kernel
theorem dX12_inside_42 : decode cX12_inside 42 = .ok (.ifCond .eq 7, 3) := by decide +kernel
theorem dX12_inside_45 : decode cX12_inside 45 = .ok (.iconst 1, 1) := by decide +kernel
theorem dX12_inside_46 : decode cX12_inside 46 = .ok (.goto 4, 3) := by decide +kernel
theorem dX12_inside_49 : decode cX12_inside 49 = .ok (.iconst 0, 1) := by decide +kernel
theorem dX12_inside_50 : decode cX12_inside 50 = .ok (.ireturn, 1) := by decide +kernel
theorem dX12_rise_0 : decode cX12_rise 0 = .ok (.iload 7, 2) := by decide +kernel
theorem dX12_rise_2 : decode cX12_rise 2 = .ok (.bipush 16, 2) := by decide +kernel
theorem dX12_rise_4 : decode cX12_rise 4 = .ok (.imul, 1) := by decide +kernel
theorem dX12_rise_5 : decode cX12_rise 5 = .ok (.istore 8, 2) := by decide +kernel
theorem dX12_rise_7 : decode cX12_rise 7 = .ok (.aload_n 0, 1) := by decide +kernel
theorem dX12_rise_8 : decode cX12_rise 8 = .ok (.getfield 9, 3) := by decide +kernel
theorem dX12_rise_11 : decode cX12_rise 11 = .ok (.iload_n 1, 1) := by decide +kernel
theorem dX12_rise_12 : decode cX12_rise 12 = .ok (.iaload, 1) := by decide +kernel
theorem dX12_rise_13 : decode cX12_rise 13 = .ok (.tableswitch 227 4 6 #[27, 163, 206], 27) := by decide +kernel
theorem dX12_rise_40 : decode cX12_rise 40 = .ok (.aload_n 0, 1) := by decide +kernel
theorem dX12_rise_41 : decode cX12_rise 41 = .ok (.aload_n 0, 1) := by decide +kernel
theorem dX12_rise_42 : decode cX12_rise 42 = .ok (.iload_n 1, 1) := by decide +kernel
theorem dX12_rise_43 : decode cX12_rise 43 = .ok (.iconst 0, 1) := by decide +kernel
theorem dX12_rise_44 : decode cX12_rise 44 = .ok (.invokevirtual 50, 3) := by decide +kernel
theorem dX12_rise_47 : decode cX12_rise 47 = .ok (.lload_n 2, 1) := by decide +kernel
theorem dX12_rise_48 : decode cX12_rise 48 = .ok (.lload 4, 2) := by decide +kernel
theorem dX12_rise_50 : decode cX12_rise 50 = .ok (.iload 6, 2) := by decide +kernel
theorem dX12_rise_52 : decode cX12_rise 52 = .ok (.iload 7, 2) := by decide +kernel
theorem dX12_rise_54 : decode cX12_rise 54 = .ok (.invokevirtual 69, 3) := by decide +kernel
theorem dX12_rise_57 : decode cX12_rise 57 = .ok (.aload_n 0, 1) := by decide +kernel
theorem dX12_rise_58 : decode cX12_rise 58 = .ok (.aload_n 0, 1) := by decide +kernel
theorem dX12_rise_59 : decode cX12_rise 59 = .ok (.iload_n 1, 1) := by decide +kernel
theorem dX12_rise_60 : decode cX12_rise 60 = .ok (.iconst 1, 1) := by decide +kernel
theorem dX12_rise_61 : decode cX12_rise 61 = .ok (.invokevirtual 50, 3) := by decide +kernel
theorem dX12_rise_64 : decode cX12_rise 64 = .ok (.lload_n 2, 1) := by decide +kernel
theorem dX12_rise_65 : decode cX12_rise 65 = .ok (.lload 4, 2) := by decide +kernel
theorem dX12_rise_67 : decode cX12_rise 67 = .ok (.iload 6, 2) := by decide +kernel
theorem dX12_rise_69 : decode cX12_rise 69 = .ok (.iload 7, 2) := by decide +kernel
theorem dX12_rise_71 : decode cX12_rise 71 = .ok (.iconst 1, 1) := by decide +kernel
theorem dX12_rise_72 : decode cX12_rise 72 = .ok (.iadd, 1) := by decide +kernel
theorem dX12_rise_73 : decode cX12_rise 73 = .ok (.invokevirtual 69, 3) := by decide +kernel
theorem dX12_rise_76 : decode cX12_rise 76 = .ok (.iconst 0, 1) := by decide +kernel
theorem dX12_rise_77 : decode cX12_rise 77 = .ok (.istore 9, 2) := by decide +kernel
theorem dX12_rise_79 : decode cX12_rise 79 = .ok (.iload 9, 2) := by decide +kernel
theorem dX12_rise_81 : decode cX12_rise 81 = .ok (.bipush 16, 2) := by decide +kernel
theorem dX12_rise_83 : decode cX12_rise 83 = .ok (.if_icmp .ge 90, 3) := by decide +kernel
theorem dX12_rise_86 : decode cX12_rise 86 = .ok (.aload_n 0, 1) := by decide +kernel
theorem dX12_rise_87 : decode cX12_rise 87 = .ok (.getfield 22, 3) := by decide +kernel
theorem dX12_rise_90 : decode cX12_rise 90 = .ok (.iload 8, 2) := by decide +kernel
theorem dX12_rise_92 : decode cX12_rise 92 = .ok (.iload 9, 2) := by decide +kernel
theorem dX12_rise_94 : decode cX12_rise 94 = .ok (.iadd, 1) := by decide +kernel
theorem dX12_rise_95 : decode cX12_rise 95 = .ok (.laload, 1) := by decide +kernel
theorem dX12_rise_96 : decode cX12_rise 96 = .ok (.lstore 10, 2) := by decide +kernel
theorem dX12_rise_98 : decode cX12_rise 98 = .ok (.aload_n 0, 1) := by decide +kernel
theorem dX12_rise_99 : decode cX12_rise 99 = .ok (.getfield 22, 3) := by decide +kernel
theorem dX12_rise_102 : decode cX12_rise 102 = .ok (.iload 8, 2) := by decide +kernel
theorem dX12_rise_104 : decode cX12_rise 104 = .ok (.bipush 16, 2) := by decide +kernel
theorem dX12_rise_106 : decode cX12_rise 106 = .ok (.iadd, 1) := by decide +kernel
theorem dX12_rise_107 : decode cX12_rise 107 = .ok (.iload 9, 2) := by decide +kernel
theorem dX12_rise_109 : decode cX12_rise 109 = .ok (.iadd, 1) := by decide +kernel
theorem dX12_rise_110 : decode cX12_rise 110 = .ok (.laload, 1) := by decide +kernel
theorem dX12_rise_111 : decode cX12_rise 111 = .ok (.lstore 12, 2) := by decide +kernel
theorem dX12_rise_113 : decode cX12_rise 113 = .ok (.aload_n 0, 1) := by decide +kernel
theorem dX12_rise_114 : decode cX12_rise 114 = .ok (.getfield 22, 3) := by decide +kernel
theorem dX12_rise_117 : decode cX12_rise 117 = .ok (.iload 8, 2) := by decide +kernel
theorem dX12_rise_119 : decode cX12_rise 119 = .ok (.iload 9, 2) := by decide +kernel
theorem dX12_rise_121 : decode cX12_rise 121 = .ok (.iadd, 1) := by decide +kernel
theorem dX12_rise_122 : decode cX12_rise 122 = .ok (.aload_n 0, 1) := by decide +kernel
theorem dX12_rise_123 : decode cX12_rise 123 = .ok (.iload_n 1, 1) := by decide +kernel
theorem dX12_rise_124 : decode cX12_rise 124 = .ok (.iconst 2, 1) := by decide +kernel
theorem dX12_rise_125 : decode cX12_rise 125 = .ok (.invokevirtual 50, 3) := by decide +kernel
theorem dX12_rise_128 : decode cX12_rise 128 = .ok (.ifCond .ne 11, 3) := by decide +kernel
theorem dX12_rise_131 : decode cX12_rise 131 = .ok (.lload 10, 2) := by decide +kernel
theorem dX12_rise_133 : decode cX12_rise 133 = .ok (.lload 12, 2) := by decide +kernel
theorem dX12_rise_135 : decode cX12_rise 135 = .ok (.lor, 1) := by decide +kernel
theorem dX12_rise_136 : decode cX12_rise 136 = .ok (.goto 30, 3) := by decide +kernel
theorem dX12_rise_139 : decode cX12_rise 139 = .ok (.aload_n 0, 1) := by decide +kernel
theorem dX12_rise_140 : decode cX12_rise 140 = .ok (.iload_n 1, 1) := by decide +kernel
theorem dX12_rise_141 : decode cX12_rise 141 = .ok (.iconst 2, 1) := by decide +kernel
theorem dX12_rise_142 : decode cX12_rise 142 = .ok (.invokevirtual 50, 3) := by decide +kernel
theorem dX12_rise_145 : decode cX12_rise 145 = .ok (.iconst 1, 1) := by decide +kernel
theorem dX12_rise_146 : decode cX12_rise 146 = .ok (.if_icmp .ne 11, 3) := by decide +kernel
theorem dX12_rise_149 : decode cX12_rise 149 = .ok (.lload 10, 2) := by decide +kernel
theorem dX12_rise_151 : decode cX12_rise 151 = .ok (.lload 12, 2) := by decide +kernel
theorem dX12_rise_153 : decode cX12_rise 153 = .ok (.land, 1) := by decide +kernel
theorem dX12_rise_154 : decode cX12_rise 154 = .ok (.goto 12, 3) := by decide +kernel
theorem dX12_rise_157 : decode cX12_rise 157 = .ok (.lload 10, 2) := by decide +kernel
theorem dX12_rise_159 : decode cX12_rise 159 = .ok (.lload 12, 2) := by decide +kernel
theorem dX12_rise_161 : decode cX12_rise 161 = .ok (.ldc2_w 73, 3) := by decide +kernel
theorem dX12_rise_164 : decode cX12_rise 164 = .ok (.lxor, 1) := by decide +kernel
theorem dX12_rise_165 : decode cX12_rise 165 = .ok (.land, 1) := by decide +kernel
theorem dX12_rise_166 : decode cX12_rise 166 = .ok (.lastore, 1) := by decide +kernel
theorem dX12_rise_167 : decode cX12_rise 167 = .ok (.iinc 9 1, 3) := by decide +kernel
theorem dX12_rise_170 : decode cX12_rise 170 = .ok (.goto (-91), 3) := by decide +kernel
theorem dX12_rise_173 : decode cX12_rise 173 = .ok (.goto 151, 3) := by decide +kernel
theorem dX12_rise_176 : decode cX12_rise 176 = .ok (.aload_n 0, 1) := by decide +kernel
theorem dX12_rise_177 : decode cX12_rise 177 = .ok (.aload_n 0, 1) := by decide +kernel
theorem dX12_rise_178 : decode cX12_rise 178 = .ok (.iload_n 1, 1) := by decide +kernel
theorem dX12_rise_179 : decode cX12_rise 179 = .ok (.iconst 3, 1) := by decide +kernel
theorem dX12_rise_180 : decode cX12_rise 180 = .ok (.invokevirtual 50, 3) := by decide +kernel
theorem dX12_rise_183 : decode cX12_rise 183 = .ok (.lload_n 2, 1) := by decide +kernel
theorem dX12_rise_184 : decode cX12_rise 184 = .ok (.aload_n 0, 1) := by decide +kernel
theorem dX12_rise_185 : decode cX12_rise 185 = .ok (.iload_n 1, 1) := by decide +kernel
theorem dX12_rise_186 : decode cX12_rise 186 = .ok (.iconst 0, 1) := by decide +kernel
theorem dX12_rise_187 : decode cX12_rise 187 = .ok (.invokevirtual 50, 3) := by decide +kernel
theorem dX12_rise_190 : decode cX12_rise 190 = .ok (.i2l, 1) := by decide +kernel
theorem dX12_rise_191 : decode cX12_rise 191 = .ok (.lsub, 1) := by decide +kernel
theorem dX12_rise_192 : decode cX12_rise 192 = .ok (.lload 4, 2) := by decide +kernel
theorem dX12_rise_194 : decode cX12_rise 194 = .ok (.aload_n 0, 1) := by decide +kernel
theorem dX12_rise_195 : decode cX12_rise 195 = .ok (.iload_n 1, 1) := by decide +kernel
theorem dX12_rise_196 : decode cX12_rise 196 = .ok (.iconst 1, 1) := by decide +kernel
theorem dX12_rise_197 : decode cX12_rise 197 = .ok (.invokevirtual 50, 3) := by decide +kernel
theorem dX12_rise_200 : decode cX12_rise 200 = .ok (.i2l, 1) := by decide +kernel
theorem dX12_rise_201 : decode cX12_rise 201 = .ok (.lsub, 1) := by decide +kernel
theorem dX12_rise_202 : decode cX12_rise 202 = .ok (.iload 6, 2) := by decide +kernel
theorem dX12_rise_204 : decode cX12_rise 204 = .ok (.aload_n 0, 1) := by decide +kernel
theorem dX12_rise_205 : decode cX12_rise 205 = .ok (.iload_n 1, 1) := by decide +kernel
theorem dX12_rise_206 : decode cX12_rise 206 = .ok (.iconst 2, 1) := by decide +kernel
theorem dX12_rise_207 : decode cX12_rise 207 = .ok (.invokevirtual 50, 3) := by decide +kernel
theorem dX12_rise_210 : decode cX12_rise 210 = .ok (.iadd, 1) := by decide +kernel
theorem dX12_rise_211 : decode cX12_rise 211 = .ok (.iload 7, 2) := by decide +kernel
theorem dX12_rise_213 : decode cX12_rise 213 = .ok (.invokevirtual 69, 3) := by decide +kernel
theorem dX12_rise_216 : decode cX12_rise 216 = .ok (.goto 108, 3) := by decide +kernel
theorem dX12_rise_219 : decode cX12_rise 219 = .ok (.aload_n 0, 1) := by decide +kernel
theorem dX12_rise_220 : decode cX12_rise 220 = .ok (.aload_n 0, 1) := by decide +kernel
theorem dX12_rise_221 : decode cX12_rise 221 = .ok (.iload_n 1, 1) := by decide +kernel
theorem dX12_rise_222 : decode cX12_rise 222 = .ok (.iconst 0, 1) := by decide +kernel
theorem dX12_rise_223 : decode cX12_rise 223 = .ok (.invokevirtual 50, 3) := by decide +kernel
theorem dX12_rise_226 : decode cX12_rise 226 = .ok (.lload 4, 2) := by decide +kernel
theorem dX12_rise_228 : decode cX12_rise 228 = .ok (.lload_n 2, 1) := by decide +kernel
theorem dX12_rise_229 : decode cX12_rise 229 = .ok (.lneg, 1) := by decide +kernel
theorem dX12_rise_230 : decode cX12_rise 230 = .ok (.iload 6, 2) := by decide +kernel
theorem dX12_rise_232 : decode cX12_rise 232 = .ok (.iload 7, 2) := by decide +kernel
theorem dX12_rise_234 : decode cX12_rise 234 = .ok (.invokevirtual 69, 3) := by decide +kernel
theorem dX12_rise_237 : decode cX12_rise 237 = .ok (.goto 87, 3) := by decide +kernel
theorem dX12_rise_240 : decode cX12_rise 240 = .ok (.iconst 0, 1) := by decide +kernel
theorem dX12_rise_241 : decode cX12_rise 241 = .ok (.istore 9, 2) := by decide +kernel
theorem dX12_rise_243 : decode cX12_rise 243 = .ok (.iload 9, 2) := by decide +kernel
theorem dX12_rise_245 : decode cX12_rise 245 = .ok (.bipush 16, 2) := by decide +kernel
theorem dX12_rise_247 : decode cX12_rise 247 = .ok (.if_icmp .ge 20, 3) := by decide +kernel
theorem dX12_rise_250 : decode cX12_rise 250 = .ok (.aload_n 0, 1) := by decide +kernel
theorem dX12_rise_251 : decode cX12_rise 251 = .ok (.getfield 22, 3) := by decide +kernel
theorem dX12_rise_254 : decode cX12_rise 254 = .ok (.iload 8, 2) := by decide +kernel
theorem dX12_rise_256 : decode cX12_rise 256 = .ok (.iload 9, 2) := by decide +kernel
theorem dX12_rise_258 : decode cX12_rise 258 = .ok (.iadd, 1) := by decide +kernel
theorem dX12_rise_259 : decode cX12_rise 259 = .ok (.lconst 0, 1) := by decide +kernel
theorem dX12_rise_260 : decode cX12_rise 260 = .ok (.lastore, 1) := by decide +kernel
theorem dX12_rise_261 : decode cX12_rise 261 = .ok (.iinc 9 1, 3) := by decide +kernel
theorem dX12_rise_264 : decode cX12_rise 264 = .ok (.goto (-21), 3) := by decide +kernel
theorem dX12_rise_267 : decode cX12_rise 267 = .ok (.iconst 0, 1) := by decide +kernel
theorem dX12_rise_268 : decode cX12_rise 268 = .ok (.istore 9, 2) := by decide +kernel
theorem dX12_rise_270 : decode cX12_rise 270 = .ok (.iload 9, 2) := by decide +kernel
theorem dX12_rise_272 : decode cX12_rise 272 = .ok (.sipush 1000, 3) := by decide +kernel
theorem dX12_rise_275 : decode cX12_rise 275 = .ok (.if_icmp .ge 49, 3) := by decide +kernel
theorem dX12_rise_278 : decode cX12_rise 278 = .ok (.aload_n 0, 1) := by decide +kernel
theorem dX12_rise_279 : decode cX12_rise 279 = .ok (.iload_n 1, 1) := by decide +kernel
theorem dX12_rise_280 : decode cX12_rise 280 = .ok (.lload_n 2, 1) := by decide +kernel
theorem dX12_rise_281 : decode cX12_rise 281 = .ok (.lload 4, 2) := by decide +kernel
theorem dX12_rise_283 : decode cX12_rise 283 = .ok (.iload 9, 2) := by decide +kernel
theorem dX12_rise_285 : decode cX12_rise 285 = .ok (.iload 6, 2) := by decide +kernel
theorem dX12_rise_287 : decode cX12_rise 287 = .ok (.isub, 1) := by decide +kernel
theorem dX12_rise_288 : decode cX12_rise 288 = .ok (.i2l, 1) := by decide +kernel
theorem dX12_rise_289 : decode cX12_rise 289 = .ok (.invokevirtual 61, 3) := by decide +kernel
theorem dX12_rise_292 : decode cX12_rise 292 = .ok (.ifCond .eq 26, 3) := by decide +kernel
theorem dX12_rise_295 : decode cX12_rise 295 = .ok (.aload_n 0, 1) := by decide +kernel
theorem dX12_rise_296 : decode cX12_rise 296 = .ok (.getfield 22, 3) := by decide +kernel
theorem dX12_rise_299 : decode cX12_rise 299 = .ok (.iload 8, 2) := by decide +kernel
theorem dX12_rise_301 : decode cX12_rise 301 = .ok (.iload 9, 2) := by decide +kernel
theorem dX12_rise_303 : decode cX12_rise 303 = .ok (.bipush 64, 2) := by decide +kernel
theorem dX12_rise_305 : decode cX12_rise 305 = .ok (.idiv, 1) := by decide +kernel
theorem dX12_rise_306 : decode cX12_rise 306 = .ok (.iadd, 1) := by decide +kernel
theorem dX12_rise_307 : decode cX12_rise 307 = .ok (.dup2, 1) := by decide +kernel
theorem dX12_rise_308 : decode cX12_rise 308 = .ok (.laload, 1) := by decide +kernel
theorem dX12_rise_309 : decode cX12_rise 309 = .ok (.lconst 1, 1) := by decide +kernel
theorem dX12_rise_310 : decode cX12_rise 310 = .ok (.iload 9, 2) := by decide +kernel
theorem dX12_rise_312 : decode cX12_rise 312 = .ok (.bipush 64, 2) := by decide +kernel
theorem dX12_rise_314 : decode cX12_rise 314 = .ok (.irem, 1) := by decide +kernel
theorem dX12_rise_315 : decode cX12_rise 315 = .ok (.lshl, 1) := by decide +kernel
theorem dX12_rise_316 : decode cX12_rise 316 = .ok (.lor, 1) := by decide +kernel
theorem dX12_rise_317 : decode cX12_rise 317 = .ok (.lastore, 1) := by decide +kernel
theorem dX12_rise_318 : decode cX12_rise 318 = .ok (.iinc 9 1, 3) := by decide +kernel
theorem dX12_rise_321 : decode cX12_rise 321 = .ok (.goto (-51), 3) := by decide +kernel
theorem dX12_rise_324 : decode cX12_rise 324 = .ok (.return_, 1) := by decide +kernel
theorem dX12_topOf_0 : decode cX12_topOf 0 = .ok (.aload_n 0, 1) := by decide +kernel
theorem dX12_topOf_1 : decode cX12_topOf 1 = .ok (.iload_n 1, 1) := by decide +kernel
theorem dX12_topOf_2 : decode cX12_topOf 2 = .ok (.iload_n 2, 1) := by decide +kernel
theorem dX12_topOf_3 : decode cX12_topOf 3 = .ok (.i2l, 1) := by decide +kernel
theorem dX12_topOf_4 : decode cX12_topOf 4 = .ok (.iload_n 3, 1) := by decide +kernel
theorem dX12_topOf_5 : decode cX12_topOf 5 = .ok (.i2l, 1) := by decide +kernel
theorem dX12_topOf_6 : decode cX12_topOf 6 = .ok (.iconst 0, 1) := by decide +kernel
theorem dX12_topOf_7 : decode cX12_topOf 7 = .ok (.iconst 0, 1) := by decide +kernel
theorem dX12_topOf_8 : decode cX12_topOf 8 = .ok (.invokevirtual 69, 3) := by decide +kernel
theorem dX12_topOf_11 : decode cX12_topOf 11 = .ok (.sipush 999, 3) := by decide +kernel
theorem dX12_topOf_14 : decode cX12_topOf 14 = .ok (.istore 4, 2) := by decide +kernel
theorem dX12_topOf_16 : decode cX12_topOf 16 = .ok (.iload 4, 2) := by decide +kernel
theorem dX12_topOf_18 : decode cX12_topOf 18 = .ok (.ifCond .lt 32, 3) := by decide +kernel
theorem dX12_topOf_21 : decode cX12_topOf 21 = .ok (.aload_n 0, 1) := by decide +kernel
theorem dX12_topOf_22 : decode cX12_topOf 22 = .ok (.getfield 22, 3) := by decide +kernel
theorem dX12_topOf_25 : decode cX12_topOf 25 = .ok (.iload 4, 2) := by decide +kernel
theorem dX12_topOf_27 : decode cX12_topOf 27 = .ok (.bipush 64, 2) := by decide +kernel
theorem dX12_topOf_29 : decode cX12_topOf 29 = .ok (.idiv, 1) := by decide +kernel
theorem dX12_topOf_30 : decode cX12_topOf 30 = .ok (.laload, 1) := by decide +kernel
