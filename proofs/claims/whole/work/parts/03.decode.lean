theorem dX0_init_0 : decode cX0_init 0 = .ok (.aload_n 0, 1) := by decide +kernel
theorem dX0_init_1 : decode cX0_init 1 = .ok (.invokespecial 3, 3) := by decide +kernel
theorem dX0_init_4 : decode cX0_init 4 = .ok (.aload_n 0, 1) := by decide +kernel
theorem dX0_init_5 : decode cX0_init 5 = .ok (.bipush 6, 2) := by decide +kernel
theorem dX0_init_7 : decode cX0_init 7 = .ok (.newarray .int, 2) := by decide +kernel
theorem dX0_init_9 : decode cX0_init 9 = .ok (.putfield 9, 3) := by decide +kernel
theorem dX0_init_12 : decode cX0_init 12 = .ok (.aload_n 0, 1) := by decide +kernel
theorem dX0_init_13 : decode cX0_init 13 = .ok (.bipush 6, 2) := by decide +kernel
theorem dX0_init_15 : decode cX0_init 15 = .ok (.newarray .int, 2) := by decide +kernel
theorem dX0_init_17 : decode cX0_init 17 = .ok (.putfield 15, 3) := by decide +kernel
theorem dX0_init_20 : decode cX0_init 20 = .ok (.aload_n 0, 1) := by decide +kernel
theorem dX0_init_21 : decode cX0_init 21 = .ok (.bipush 6, 2) := by decide +kernel
theorem dX0_init_23 : decode cX0_init 23 = .ok (.newarray .int, 2) := by decide +kernel
theorem dX0_init_25 : decode cX0_init 25 = .ok (.putfield 18, 3) := by decide +kernel
theorem dX0_init_28 : decode cX0_init 28 = .ok (.return_, 1) := by decide +kernel
theorem dX0_search_0 : decode cX0_search 0 = .ok (.aload_n 0, 1) := by decide +kernel
theorem dX0_search_1 : decode cX0_search 1 = .ok (.iload_n 3, 1) := by decide +kernel
theorem dX0_search_2 : decode cX0_search 2 = .ok (.putfield 21, 3) := by decide +kernel
theorem dX0_search_5 : decode cX0_search 5 = .ok (.aload_n 0, 1) := by decide +kernel
theorem dX0_search_6 : decode cX0_search 6 = .ok (.aload_n 1, 1) := by decide +kernel
theorem dX0_search_7 : decode cX0_search 7 = .ok (.iload_n 2, 1) := by decide +kernel
theorem dX0_search_8 : decode cX0_search 8 = .ok (.invokevirtual 25, 3) := by decide +kernel
theorem dX0_search_11 : decode cX0_search 11 = .ok (.putfield 31, 3) := by decide +kernel
theorem dX0_search_14 : decode cX0_search 14 = .ok (.aload_n 0, 1) := by decide +kernel
theorem dX0_search_15 : decode cX0_search 15 = .ok (.aload_n 1, 1) := by decide +kernel
theorem dX0_search_16 : decode cX0_search 16 = .ok (.iload_n 2, 1) := by decide +kernel
theorem dX0_search_17 : decode cX0_search 17 = .ok (.aload_n 0, 1) := by decide +kernel
theorem dX0_search_18 : decode cX0_search 18 = .ok (.getfield 31, 3) := by decide +kernel
theorem dX0_search_21 : decode cX0_search 21 = .ok (.invokevirtual 34, 3) := by decide +kernel
theorem dX0_search_24 : decode cX0_search 24 = .ok (.putfield 38, 3) := by decide +kernel
theorem dX0_search_27 : decode cX0_search 27 = .ok (.aload_n 0, 1) := by decide +kernel
theorem dX0_search_28 : decode cX0_search 28 = .ok (.aload_n 1, 1) := by decide +kernel
theorem dX0_search_29 : decode cX0_search 29 = .ok (.getfield 41, 3) := by decide +kernel
theorem dX0_search_32 : decode cX0_search 32 = .ok (.iload_n 2, 1) := by decide +kernel
theorem dX0_search_33 : decode cX0_search 33 = .ok (.iaload, 1) := by decide +kernel
theorem dX0_search_34 : decode cX0_search 34 = .ok (.invokestatic 44, 3) := by decide +kernel
theorem dX0_search_37 : decode cX0_search 37 = .ok (.putfield 49, 3) := by decide +kernel
theorem dX0_search_40 : decode cX0_search 40 = .ok (.aload_n 0, 1) := by decide +kernel
theorem dX0_search_41 : decode cX0_search 41 = .ok (.iconst 0, 1) := by decide +kernel
theorem dX0_search_42 : decode cX0_search 42 = .ok (.putfield 52, 3) := by decide +kernel
theorem dX0_search_45 : decode cX0_search 45 = .ok (.aload_n 0, 1) := by decide +kernel
theorem dX0_search_46 : decode cX0_search 46 = .ok (.iconst 0, 1) := by decide +kernel
theorem dX0_search_47 : decode cX0_search 47 = .ok (.invokevirtual 55, 3) := by decide +kernel
theorem dX0_search_50 : decode cX0_search 50 = .ok (.return_, 1) := by decide +kernel
theorem dX0_layFrom_0 : decode cX0_layFrom 0 = .ok (.iload_n 1, 1) := by decide +kernel
theorem dX0_layFrom_1 : decode cX0_layFrom 1 = .ok (.aload_n 0, 1) := by decide +kernel
theorem dX0_layFrom_2 : decode cX0_layFrom 2 = .ok (.getfield 59, 3) := by decide +kernel
theorem dX0_layFrom_5 : decode cX0_layFrom 5 = .ok (.if_icmp .ge 9, 3) := by decide +kernel
theorem dX0_layFrom_8 : decode cX0_layFrom 8 = .ok (.iload_n 1, 1) := by decide +kernel
theorem dX0_layFrom_9 : decode cX0_layFrom 9 = .ok (.bipush 6, 2) := by decide +kernel
theorem dX0_layFrom_11 : decode cX0_layFrom 11 = .ok (.if_icmp .lt 34, 3) := by decide +kernel
theorem dX0_layFrom_14 : decode cX0_layFrom 14 = .ok (.aload_n 0, 1) := by decide +kernel
theorem dX0_layFrom_15 : decode cX0_layFrom 15 = .ok (.invokevirtual 62, 3) := by decide +kernel
theorem dX0_layFrom_18 : decode cX0_layFrom 18 = .ok (.ifCond .eq 26, 3) := by decide +kernel
theorem dX0_layFrom_21 : decode cX0_layFrom 21 = .ok (.aload_n 0, 1) := by decide +kernel
theorem dX0_layFrom_22 : decode cX0_layFrom 22 = .ok (.aload_n 0, 1) := by decide +kernel
theorem dX0_layFrom_23 : decode cX0_layFrom 23 = .ok (.aload_n 0, 1) := by decide +kernel
theorem dX0_layFrom_24 : decode cX0_layFrom 24 = .ok (.getfield 59, 3) := by decide +kernel
theorem dX0_layFrom_27 : decode cX0_layFrom 27 = .ok (.invokevirtual 66, 3) := by decide +kernel
theorem dX0_layFrom_30 : decode cX0_layFrom 30 = .ok (.aload_n 0, 1) := by decide +kernel
theorem dX0_layFrom_31 : decode cX0_layFrom 31 = .ok (.getfield 18, 3) := by decide +kernel
theorem dX0_layFrom_34 : decode cX0_layFrom 34 = .ok (.aload_n 0, 1) := by decide +kernel
theorem dX0_layFrom_35 : decode cX0_layFrom 35 = .ok (.getfield 59, 3) := by decide +kernel
theorem dX0_layFrom_38 : decode cX0_layFrom 38 = .ok (.invokestatic 69, 3) := by decide +kernel
theorem dX0_layFrom_41 : decode cX0_layFrom 41 = .ok (.invokevirtual 75, 3) := by decide +kernel
theorem dX0_layFrom_44 : decode cX0_layFrom 44 = .ok (.return_, 1) := by decide +kernel
theorem dX0_layFrom_45 : decode cX0_layFrom 45 = .ok (.iconst (-1), 1) := by decide +kernel
theorem dX0_layFrom_46 : decode cX0_layFrom 46 = .ok (.istore_n 2, 1) := by decide +kernel
theorem dX0_layFrom_47 : decode cX0_layFrom 47 = .ok (.iload_n 2, 1) := by decide +kernel
theorem dX0_layFrom_48 : decode cX0_layFrom 48 = .ok (.bipush 9, 2) := by decide +kernel
theorem dX0_layFrom_50 : decode cX0_layFrom 50 = .ok (.if_icmp .gt 55, 3) := by decide +kernel
theorem dX0_layFrom_53 : decode cX0_layFrom 53 = .ok (.iload_n 2, 1) := by decide +kernel
theorem dX0_layFrom_54 : decode cX0_layFrom 54 = .ok (.iconst (-1), 1) := by decide +kernel
theorem dX0_layFrom_55 : decode cX0_layFrom 55 = .ok (.if_icmp .eq 20, 3) := by decide +kernel
theorem dX0_layFrom_58 : decode cX0_layFrom 58 = .ok (.aload_n 0, 1) := by decide +kernel
theorem dX0_layFrom_59 : decode cX0_layFrom 59 = .ok (.getfield 31, 3) := by decide +kernel
theorem dX0_layFrom_62 : decode cX0_layFrom 62 = .ok (.aload_n 0, 1) := by decide +kernel
theorem dX0_layFrom_63 : decode cX0_layFrom 63 = .ok (.iload_n 1, 1) := by decide +kernel
theorem dX0_layFrom_64 : decode cX0_layFrom 64 = .ok (.iload_n 2, 1) := by decide +kernel
theorem dX0_layFrom_65 : decode cX0_layFrom 65 = .ok (.invokevirtual 78, 3) := by decide +kernel
theorem dX0_layFrom_68 : decode cX0_layFrom 68 = .ok (.ishr, 1) := by decide +kernel
theorem dX0_layFrom_69 : decode cX0_layFrom 69 = .ok (.iconst 1, 1) := by decide +kernel
theorem dX0_layFrom_70 : decode cX0_layFrom 70 = .ok (.iand, 1) := by decide +kernel
theorem dX0_layFrom_71 : decode cX0_layFrom 71 = .ok (.iconst 1, 1) := by decide +kernel
theorem dX0_layFrom_72 : decode cX0_layFrom 72 = .ok (.if_icmp .ne 27, 3) := by decide +kernel
theorem dX0_layFrom_75 : decode cX0_layFrom 75 = .ok (.aload_n 0, 1) := by decide +kernel
theorem dX0_layFrom_76 : decode cX0_layFrom 76 = .ok (.getfield 18, 3) := by decide +kernel
theorem dX0_layFrom_79 : decode cX0_layFrom 79 = .ok (.iload_n 1, 1) := by decide +kernel
theorem dX0_layFrom_80 : decode cX0_layFrom 80 = .ok (.iload_n 2, 1) := by decide +kernel
theorem dX0_layFrom_81 : decode cX0_layFrom 81 = .ok (.iastore, 1) := by decide +kernel
theorem dX0_layFrom_82 : decode cX0_layFrom 82 = .ok (.aload_n 0, 1) := by decide +kernel
theorem dX0_layFrom_83 : decode cX0_layFrom 83 = .ok (.iload_n 1, 1) := by decide +kernel
theorem dX0_layFrom_84 : decode cX0_layFrom 84 = .ok (.iconst 1, 1) := by decide +kernel
theorem dX0_layFrom_85 : decode cX0_layFrom 85 = .ok (.iadd, 1) := by decide +kernel
theorem dX0_layFrom_86 : decode cX0_layFrom 86 = .ok (.invokevirtual 81, 3) := by decide +kernel
theorem dX0_layFrom_89 : decode cX0_layFrom 89 = .ok (.ifCond .eq 10, 3) := by decide +kernel
theorem dX0_layFrom_92 : decode cX0_layFrom 92 = .ok (.aload_n 0, 1) := by decide +kernel
theorem dX0_layFrom_93 : decode cX0_layFrom 93 = .ok (.iload_n 1, 1) := by decide +kernel
theorem dX0_layFrom_94 : decode cX0_layFrom 94 = .ok (.iconst 1, 1) := by decide +kernel
theorem dX0_layFrom_95 : decode cX0_layFrom 95 = .ok (.iadd, 1) := by decide +kernel
theorem dX0_layFrom_96 : decode cX0_layFrom 96 = .ok (.invokevirtual 55, 3) := by decide +kernel
theorem dX0_layFrom_99 : decode cX0_layFrom 99 = .ok (.iinc 2 1, 3) := by decide +kernel
theorem dX0_layFrom_102 : decode cX0_layFrom 102 = .ok (.goto (-55), 3) := by decide +kernel
theorem dX0_layFrom_105 : decode cX0_layFrom 105 = .ok (.return_, 1) := by decide +kernel
theorem dX0_toneAt_0 : decode cX0_toneAt 0 = .ok (.aload_n 0, 1) := by decide +kernel
theorem dX0_toneAt_1 : decode cX0_toneAt 1 = .ok (.getfield 9, 3) := by decide +kernel
theorem dX0_toneAt_4 : decode cX0_toneAt 4 = .ok (.iload_n 1, 1) := by decide +kernel
theorem dX0_toneAt_5 : decode cX0_toneAt 5 = .ok (.iaload, 1) := by decide +kernel
theorem dX0_toneAt_6 : decode cX0_toneAt 6 = .ok (.aload_n 0, 1) := by decide +kernel
theorem dX0_toneAt_7 : decode cX0_toneAt 7 = .ok (.getfield 21, 3) := by decide +kernel
theorem dX0_toneAt_10 : decode cX0_toneAt 10 = .ok (.iadd, 1) := by decide +kernel
theorem dX0_toneAt_11 : decode cX0_toneAt 11 = .ok (.iload_n 2, 1) := by decide +kernel
theorem dX0_toneAt_12 : decode cX0_toneAt 12 = .ok (.iadd, 1) := by decide +kernel
theorem dX0_toneAt_13 : decode cX0_toneAt 13 = .ok (.bipush 12, 2) := by decide +kernel
theorem dX0_toneAt_15 : decode cX0_toneAt 15 = .ok (.irem, 1) := by decide +kernel
theorem dX0_toneAt_16 : decode cX0_toneAt 16 = .ok (.ireturn, 1) := by decide +kernel
theorem dX0_mayFit_0 : decode cX0_mayFit 0 = .ok (.aload_n 0, 1) := by decide +kernel
theorem dX0_mayFit_1 : decode cX0_mayFit 1 = .ok (.iload_n 1, 1) := by decide +kernel
theorem dX0_mayFit_2 : decode cX0_mayFit 2 = .ok (.invokevirtual 66, 3) := by decide +kernel
theorem dX0_mayFit_5 : decode cX0_mayFit 5 = .ok (.istore_n 2, 1) := by decide +kernel
theorem dX0_mayFit_6 : decode cX0_mayFit 6 = .ok (.iload_n 2, 1) := by decide +kernel
theorem dX0_mayFit_7 : decode cX0_mayFit 7 = .ok (.iconst (-1), 1) := by decide +kernel
theorem dX0_mayFit_8 : decode cX0_mayFit 8 = .ok (.if_icmp .ne 5, 3) := by decide +kernel
theorem dX0_mayFit_11 : decode cX0_mayFit 11 = .ok (.iconst 0, 1) := by decide +kernel
theorem dX0_mayFit_12 : decode cX0_mayFit 12 = .ok (.ireturn, 1) := by decide +kernel
theorem dX0_mayFit_13 : decode cX0_mayFit 13 = .ok (.aload_n 0, 1) := by decide +kernel
theorem dX0_mayFit_14 : decode cX0_mayFit 14 = .ok (.getfield 52, 3) := by decide +kernel
theorem dX0_mayFit_17 : decode cX0_mayFit 17 = .ok (.bipush 6, 2) := by decide +kernel
theorem dX0_mayFit_19 : decode cX0_mayFit 19 = .ok (.if_icmp .ne 18, 3) := by decide +kernel
theorem dX0_mayFit_22 : decode cX0_mayFit 22 = .ok (.iload_n 2, 1) := by decide +kernel
theorem dX0_mayFit_23 : decode cX0_mayFit 23 = .ok (.aload_n 0, 1) := by decide +kernel
theorem dX0_mayFit_24 : decode cX0_mayFit 24 = .ok (.getfield 15, 3) := by decide +kernel
theorem dX0_mayFit_27 : decode cX0_mayFit 27 = .ok (.iconst 5, 1) := by decide +kernel
theorem dX0_mayFit_28 : decode cX0_mayFit 28 = .ok (.iaload, 1) := by decide +kernel
theorem dX0_mayFit_29 : decode cX0_mayFit 29 = .ok (.invokestatic 85, 3) := by decide +kernel
theorem dX0_mayFit_32 : decode cX0_mayFit 32 = .ok (.if_icmp .lt 5, 3) := by decide +kernel
theorem dX0_mayFit_35 : decode cX0_mayFit 35 = .ok (.iconst 0, 1) := by decide +kernel
theorem dX0_mayFit_36 : decode cX0_mayFit 36 = .ok (.ireturn, 1) := by decide +kernel
theorem dX0_mayFit_37 : decode cX0_mayFit 37 = .ok (.aload_n 0, 1) := by decide +kernel
theorem dX0_mayFit_38 : decode cX0_mayFit 38 = .ok (.getfield 38, 3) := by decide +kernel
theorem dX0_mayFit_41 : decode cX0_mayFit 41 = .ok (.aload_n 0, 1) := by decide +kernel
theorem dX0_mayFit_42 : decode cX0_mayFit 42 = .ok (.iload_n 1, 1) := by decide +kernel
theorem dX0_mayFit_43 : decode cX0_mayFit 43 = .ok (.invokevirtual 88, 3) := by decide +kernel
theorem dX0_mayFit_46 : decode cX0_mayFit 46 = .ok (.iconst (-1), 1) := by decide +kernel
theorem dX0_mayFit_47 : decode cX0_mayFit 47 = .ok (.ixor, 1) := by decide +kernel
theorem dX0_mayFit_48 : decode cX0_mayFit 48 = .ok (.iand, 1) := by decide +kernel
theorem dX0_mayFit_49 : decode cX0_mayFit 49 = .ok (.invokestatic 91, 3) := by decide +kernel
theorem dX0_mayFit_52 : decode cX0_mayFit 52 = .ok (.aload_n 0, 1) := by decide +kernel
theorem dX0_mayFit_53 : decode cX0_mayFit 53 = .ok (.getfield 59, 3) := by decide +kernel
theorem dX0_mayFit_56 : decode cX0_mayFit 56 = .ok (.iload_n 1, 1) := by decide +kernel
theorem dX0_mayFit_57 : decode cX0_mayFit 57 = .ok (.isub, 1) := by decide +kernel
theorem dX0_mayFit_58 : decode cX0_mayFit 58 = .ok (.if_icmp .gt 7, 3) := by decide +kernel
theorem dX0_mayFit_61 : decode cX0_mayFit 61 = .ok (.iconst 1, 1) := by decide +kernel
theorem dX0_mayFit_62 : decode cX0_mayFit 62 = .ok (.goto 4, 3) := by decide +kernel
theorem dX0_mayFit_65 : decode cX0_mayFit 65 = .ok (.iconst 0, 1) := by decide +kernel
theorem dX0_mayFit_66 : decode cX0_mayFit 66 = .ok (.ireturn, 1) := by decide +kernel
theorem dX0_strainOfFirst_0 : decode cX0_strainOfFirst 0 = .ok (.iconst 0, 1) := by decide +kernel
theorem dX0_strainOfFirst_1 : decode cX0_strainOfFirst 1 = .ok (.istore_n 2, 1) := by decide +kernel
theorem dX0_strainOfFirst_2 : decode cX0_strainOfFirst 2 = .ok (.iconst 0, 1) := by decide +kernel
theorem dX0_strainOfFirst_3 : decode cX0_strainOfFirst 3 = .ok (.istore_n 3, 1) := by decide +kernel
theorem dX0_strainOfFirst_4 : decode cX0_strainOfFirst 4 = .ok (.iconst 0, 1) := by decide +kernel
theorem dX0_strainOfFirst_5 : decode cX0_strainOfFirst 5 = .ok (.istore 4, 2) := by decide +kernel
theorem dX0_strainOfFirst_7 : decode cX0_strainOfFirst 7 = .ok (.iconst 0, 1) := by decide +kernel
theorem dX0_strainOfFirst_8 : decode cX0_strainOfFirst 8 = .ok (.istore 5, 2) := by decide +kernel
theorem dX0_strainOfFirst_10 : decode cX0_strainOfFirst 10 = .ok (.bipush 9, 2) := by decide +kernel
theorem dX0_strainOfFirst_12 : decode cX0_strainOfFirst 12 = .ok (.istore 6, 2) := by decide +kernel
theorem dX0_strainOfFirst_14 : decode cX0_strainOfFirst 14 = .ok (.iconst 0, 1) := by decide +kernel
theorem dX0_strainOfFirst_15 : decode cX0_strainOfFirst 15 = .ok (.istore 7, 2) := by decide +kernel
theorem dX0_strainOfFirst_17 : decode cX0_strainOfFirst 17 = .ok (.iconst 0, 1) := by decide +kernel
theorem dX0_strainOfFirst_18 : decode cX0_strainOfFirst 18 = .ok (.istore 8, 2) := by decide +kernel
theorem dX0_strainOfFirst_20 : decode cX0_strainOfFirst 20 = .ok (.iload 8, 2) := by decide +kernel
theorem dX0_strainOfFirst_22 : decode cX0_strainOfFirst 22 = .ok (.iload_n 1, 1) := by decide +kernel
theorem dX0_strainOfFirst_23 : decode cX0_strainOfFirst 23 = .ok (.if_icmp .ge 98, 3) := by decide +kernel
theorem dX0_strainOfFirst_26 : decode cX0_strainOfFirst 26 = .ok (.iload 8, 2) := by decide +kernel
theorem dX0_strainOfFirst_28 : decode cX0_strainOfFirst 28 = .ok (.bipush 6, 2) := by decide +kernel
theorem dX0_strainOfFirst_30 : decode cX0_strainOfFirst 30 = .ok (.if_icmp .ge 91, 3) := by decide +kernel
theorem dX0_strainOfFirst_33 : decode cX0_strainOfFirst 33 = .ok (.aload_n 0, 1) := by decide +kernel
theorem dX0_strainOfFirst_34 : decode cX0_strainOfFirst 34 = .ok (.getfield 18, 3) := by decide +kernel
theorem dX0_strainOfFirst_37 : decode cX0_strainOfFirst 37 = .ok (.iload 8, 2) := by decide +kernel
theorem dX0_strainOfFirst_39 : decode cX0_strainOfFirst 39 = .ok (.iaload, 1) := by decide +kernel
theorem dX0_strainOfFirst_40 : decode cX0_strainOfFirst 40 = .ok (.istore 9, 2) := by decide +kernel
theorem dX0_strainOfFirst_42 : decode cX0_strainOfFirst 42 = .ok (.iload 9, 2) := by decide +kernel
theorem dX0_strainOfFirst_44 : decode cX0_strainOfFirst 44 = .ok (.iconst (-1), 1) := by decide +kernel
theorem dX0_strainOfFirst_45 : decode cX0_strainOfFirst 45 = .ok (.if_icmp .ne 9, 3) := by decide +kernel
theorem dX0_strainOfFirst_48 : decode cX0_strainOfFirst 48 = .ok (.iinc 2 1, 3) := by decide +kernel
theorem dX0_strainOfFirst_51 : decode cX0_strainOfFirst 51 = .ok (.goto 64, 3) := by decide +kernel
theorem dX0_strainOfFirst_54 : decode cX0_strainOfFirst 54 = .ok (.iload 9, 2) := by decide +kernel
theorem dX0_strainOfFirst_56 : decode cX0_strainOfFirst 56 = .ok (.ifCond .ne 9, 3) := by decide +kernel
theorem dX0_strainOfFirst_59 : decode cX0_strainOfFirst 59 = .ok (.iinc 3 1, 3) := by decide +kernel
theorem dX0_strainOfFirst_62 : decode cX0_strainOfFirst 62 = .ok (.goto 53, 3) := by decide +kernel
theorem dX0_strainOfFirst_65 : decode cX0_strainOfFirst 65 = .ok (.iinc 4 1, 3) := by decide +kernel
theorem dX0_strainOfFirst_68 : decode cX0_strainOfFirst 68 = .ok (.iload 9, 2) := by decide +kernel
theorem dX0_strainOfFirst_70 : decode cX0_strainOfFirst 70 = .ok (.iload 5, 2) := by decide +kernel
theorem dX0_strainOfFirst_72 : decode cX0_strainOfFirst 72 = .ok (.if_icmp .le 8, 3) := by decide +kernel
theorem dX0_strainOfFirst_75 : decode cX0_strainOfFirst 75 = .ok (.iload 9, 2) := by decide +kernel
theorem dX0_strainOfFirst_77 : decode cX0_strainOfFirst 77 = .ok (.goto 5, 3) := by decide +kernel
theorem dX0_strainOfFirst_80 : decode cX0_strainOfFirst 80 = .ok (.iload 5, 2) := by decide +kernel
theorem dX0_strainOfFirst_82 : decode cX0_strainOfFirst 82 = .ok (.istore 5, 2) := by decide +kernel
theorem dX0_strainOfFirst_84 : decode cX0_strainOfFirst 84 = .ok (.iload 9, 2) := by decide +kernel
theorem dX0_strainOfFirst_86 : decode cX0_strainOfFirst 86 = .ok (.iload 6, 2) := by decide +kernel
theorem dX0_strainOfFirst_88 : decode cX0_strainOfFirst 88 = .ok (.if_icmp .ge 10, 3) := by decide +kernel
theorem dX0_strainOfFirst_91 : decode cX0_strainOfFirst 91 = .ok (.iload 9, 2) := by decide +kernel
theorem dX0_strainOfFirst_93 : decode cX0_strainOfFirst 93 = .ok (.istore 6, 2) := by decide +kernel
theorem dX0_strainOfFirst_95 : decode cX0_strainOfFirst 95 = .ok (.iconst 0, 1) := by decide +kernel
theorem dX0_strainOfFirst_96 : decode cX0_strainOfFirst 96 = .ok (.istore 7, 2) := by decide +kernel
theorem dX0_strainOfFirst_98 : decode cX0_strainOfFirst 98 = .ok (.iload 7, 2) := by decide +kernel
theorem dX0_strainOfFirst_100 : decode cX0_strainOfFirst 100 = .ok (.iload 9, 2) := by decide +kernel
theorem dX0_strainOfFirst_102 : decode cX0_strainOfFirst 102 = .ok (.iload 6, 2) := by decide +kernel
theorem dX0_strainOfFirst_104 : decode cX0_strainOfFirst 104 = .ok (.if_icmp .ne 7, 3) := by decide +kernel
theorem dX0_strainOfFirst_107 : decode cX0_strainOfFirst 107 = .ok (.iconst 1, 1) := by decide +kernel
theorem dX0_strainOfFirst_108 : decode cX0_strainOfFirst 108 = .ok (.goto 4, 3) := by decide +kernel
theorem dX0_strainOfFirst_111 : decode cX0_strainOfFirst 111 = .ok (.iconst 0, 1) := by decide +kernel
theorem dX0_strainOfFirst_112 : decode cX0_strainOfFirst 112 = .ok (.iadd, 1) := by decide +kernel
theorem dX0_strainOfFirst_113 : decode cX0_strainOfFirst 113 = .ok (.istore 7, 2) := by decide +kernel
theorem dX0_strainOfFirst_115 : decode cX0_strainOfFirst 115 = .ok (.iinc 8 1, 3) := by decide +kernel
theorem dX0_strainOfFirst_118 : decode cX0_strainOfFirst 118 = .ok (.goto (-98), 3) := by decide +kernel
theorem dX0_strainOfFirst_121 : decode cX0_strainOfFirst 121 = .ok (.iload_n 3, 1) := by decide +kernel
theorem dX0_strainOfFirst_122 : decode cX0_strainOfFirst 122 = .ok (.ifCond .ne 18, 3) := by decide +kernel
theorem dX0_strainOfFirst_125 : decode cX0_strainOfFirst 125 = .ok (.iload 4, 2) := by decide +kernel
theorem dX0_strainOfFirst_127 : decode cX0_strainOfFirst 127 = .ok (.ifCond .le 13, 3) := by decide +kernel
theorem dX0_strainOfFirst_130 : decode cX0_strainOfFirst 130 = .ok (.iload 4, 2) := by decide +kernel
theorem dX0_strainOfFirst_132 : decode cX0_strainOfFirst 132 = .ok (.iload 7, 2) := by decide +kernel
theorem dX0_strainOfFirst_134 : decode cX0_strainOfFirst 134 = .ok (.isub, 1) := by decide +kernel
theorem dX0_strainOfFirst_135 : decode cX0_strainOfFirst 135 = .ok (.iconst 1, 1) := by decide +kernel
theorem dX0_strainOfFirst_136 : decode cX0_strainOfFirst 136 = .ok (.iadd, 1) := by decide +kernel
theorem dX0_strainOfFirst_137 : decode cX0_strainOfFirst 137 = .ok (.goto 5, 3) := by decide +kernel
theorem dX0_strainOfFirst_140 : decode cX0_strainOfFirst 140 = .ok (.iload 4, 2) := by decide +kernel
theorem dX0_strainOfFirst_142 : decode cX0_strainOfFirst 142 = .ok (.istore 8, 2) := by decide +kernel
theorem dX0_strainOfFirst_144 : decode cX0_strainOfFirst 144 = .ok (.iload 5, 2) := by decide +kernel
theorem dX0_strainOfFirst_146 : decode cX0_strainOfFirst 146 = .ok (.iload 6, 2) := by decide +kernel
theorem dX0_strainOfFirst_148 : decode cX0_strainOfFirst 148 = .ok (.isub, 1) := by decide +kernel
theorem dX0_strainOfFirst_149 : decode cX0_strainOfFirst 149 = .ok (.iconst 3, 1) := by decide +kernel
theorem dX0_strainOfFirst_150 : decode cX0_strainOfFirst 150 = .ok (.if_icmp .gt 9, 3) := by decide +kernel
theorem dX0_strainOfFirst_153 : decode cX0_strainOfFirst 153 = .ok (.iload 8, 2) := by decide +kernel
theorem dX0_strainOfFirst_155 : decode cX0_strainOfFirst 155 = .ok (.iconst 4, 1) := by decide +kernel
theorem dX0_strainOfFirst_156 : decode cX0_strainOfFirst 156 = .ok (.if_icmp .le 5, 3) := by decide +kernel
theorem dX0_strainOfFirst_159 : decode cX0_strainOfFirst 159 = .ok (.iconst (-1), 1) := by decide +kernel
theorem dX0_strainOfFirst_160 : decode cX0_strainOfFirst 160 = .ok (.ireturn, 1) := by decide +kernel
theorem dX0_strainOfFirst_161 : decode cX0_strainOfFirst 161 = .ok (.iconst 3, 1) := by decide +kernel
theorem dX0_strainOfFirst_162 : decode cX0_strainOfFirst 162 = .ok (.iload 8, 2) := by decide +kernel
theorem dX0_strainOfFirst_164 : decode cX0_strainOfFirst 164 = .ok (.imul, 1) := by decide +kernel
theorem dX0_strainOfFirst_165 : decode cX0_strainOfFirst 165 = .ok (.iload 5, 2) := by decide +kernel
theorem dX0_strainOfFirst_167 : decode cX0_strainOfFirst 167 = .ok (.iadd, 1) := by decide +kernel
theorem dX0_strainOfFirst_168 : decode cX0_strainOfFirst 168 = .ok (.iconst 4, 1) := by decide +kernel
theorem dX0_strainOfFirst_169 : decode cX0_strainOfFirst 169 = .ok (.iload_n 2, 1) := by decide +kernel
theorem dX0_strainOfFirst_170 : decode cX0_strainOfFirst 170 = .ok (.imul, 1) := by decide +kernel
theorem dX0_strainOfFirst_171 : decode cX0_strainOfFirst 171 = .ok (.iadd, 1) := by decide +kernel
theorem dX0_strainOfFirst_172 : decode cX0_strainOfFirst 172 = .ok (.ireturn, 1) := by decide +kernel
theorem dX0_soundingOfFirst_0 : decode cX0_soundingOfFirst 0 = .ok (.iconst 0, 1) := by decide +kernel
theorem dX0_soundingOfFirst_1 : decode cX0_soundingOfFirst 1 = .ok (.istore_n 2, 1) := by decide +kernel
theorem dX0_soundingOfFirst_2 : decode cX0_soundingOfFirst 2 = .ok (.iconst 0, 1) := by decide +kernel
theorem dX0_soundingOfFirst_3 : decode cX0_soundingOfFirst 3 = .ok (.istore_n 3, 1) := by decide +kernel
theorem dX0_soundingOfFirst_4 : decode cX0_soundingOfFirst 4 = .ok (.iload_n 3, 1) := by decide +kernel
theorem dX0_soundingOfFirst_5 : decode cX0_soundingOfFirst 5 = .ok (.iload_n 1, 1) := by decide +kernel
theorem dX0_soundingOfFirst_6 : decode cX0_soundingOfFirst 6 = .ok (.if_icmp .ge 41, 3) := by decide +kernel
theorem dX0_soundingOfFirst_9 : decode cX0_soundingOfFirst 9 = .ok (.iload_n 3, 1) := by decide +kernel
theorem dX0_soundingOfFirst_10 : decode cX0_soundingOfFirst 10 = .ok (.bipush 6, 2) := by decide +kernel
theorem dX0_soundingOfFirst_12 : decode cX0_soundingOfFirst 12 = .ok (.if_icmp .ge 35, 3) := by decide +kernel
theorem dX0_soundingOfFirst_15 : decode cX0_soundingOfFirst 15 = .ok (.aload_n 0, 1) := by decide +kernel
theorem dX0_soundingOfFirst_16 : decode cX0_soundingOfFirst 16 = .ok (.getfield 18, 3) := by decide +kernel
theorem dX0_soundingOfFirst_19 : decode cX0_soundingOfFirst 19 = .ok (.iload_n 3, 1) := by decide +kernel
theorem dX0_soundingOfFirst_20 : decode cX0_soundingOfFirst 20 = .ok (.iaload, 1) := by decide +kernel
theorem dX0_soundingOfFirst_21 : decode cX0_soundingOfFirst 21 = .ok (.iconst (-1), 1) := by decide +kernel
theorem dX0_soundingOfFirst_22 : decode cX0_soundingOfFirst 22 = .ok (.if_icmp .eq 19, 3) := by decide +kernel
theorem dX0_soundingOfFirst_25 : decode cX0_soundingOfFirst 25 = .ok (.iload_n 2, 1) := by decide +kernel
theorem dX0_soundingOfFirst_26 : decode cX0_soundingOfFirst 26 = .ok (.iconst 1, 1) := by decide +kernel
theorem dX0_soundingOfFirst_27 : decode cX0_soundingOfFirst 27 = .ok (.aload_n 0, 1) := by decide +kernel
theorem dX0_soundingOfFirst_28 : decode cX0_soundingOfFirst 28 = .ok (.iload_n 3, 1) := by decide +kernel
theorem dX0_soundingOfFirst_29 : decode cX0_soundingOfFirst 29 = .ok (.aload_n 0, 1) := by decide +kernel
theorem dX0_soundingOfFirst_30 : decode cX0_soundingOfFirst 30 = .ok (.getfield 18, 3) := by decide +kernel
theorem dX0_soundingOfFirst_33 : decode cX0_soundingOfFirst 33 = .ok (.iload_n 3, 1) := by decide +kernel
theorem dX0_soundingOfFirst_34 : decode cX0_soundingOfFirst 34 = .ok (.iaload, 1) := by decide +kernel
theorem dX0_soundingOfFirst_35 : decode cX0_soundingOfFirst 35 = .ok (.invokevirtual 78, 3) := by decide +kernel
theorem dX0_soundingOfFirst_38 : decode cX0_soundingOfFirst 38 = .ok (.ishl, 1) := by decide +kernel
theorem dX0_soundingOfFirst_39 : decode cX0_soundingOfFirst 39 = .ok (.ior, 1) := by decide +kernel
theorem dX0_soundingOfFirst_40 : decode cX0_soundingOfFirst 40 = .ok (.istore_n 2, 1) := by decide +kernel
theorem dX0_soundingOfFirst_41 : decode cX0_soundingOfFirst 41 = .ok (.iinc 3 1, 3) := by decide +kernel
theorem dX0_soundingOfFirst_44 : decode cX0_soundingOfFirst 44 = .ok (.goto (-40), 3) := by decide +kernel
theorem dX0_soundingOfFirst_47 : decode cX0_soundingOfFirst 47 = .ok (.iload_n 2, 1) := by decide +kernel
theorem dX0_soundingOfFirst_48 : decode cX0_soundingOfFirst 48 = .ok (.ireturn, 1) := by decide +kernel
theorem dX0_leastIsBass_0 : decode cX0_leastIsBass 0 = .ok (.iconst (-1), 1) := by decide +kernel
theorem dX0_leastIsBass_1 : decode cX0_leastIsBass 1 = .ok (.istore_n 1, 1) := by decide +kernel
theorem dX0_leastIsBass_2 : decode cX0_leastIsBass 2 = .ok (.iconst 0, 1) := by decide +kernel
theorem dX0_leastIsBass_3 : decode cX0_leastIsBass 3 = .ok (.istore_n 2, 1) := by decide +kernel
theorem dX0_leastIsBass_4 : decode cX0_leastIsBass 4 = .ok (.iload_n 2, 1) := by decide +kernel
theorem dX0_leastIsBass_5 : decode cX0_leastIsBass 5 = .ok (.aload_n 0, 1) := by decide +kernel
theorem dX0_leastIsBass_6 : decode cX0_leastIsBass 6 = .ok (.getfield 59, 3) := by decide +kernel
theorem dX0_leastIsBass_9 : decode cX0_leastIsBass 9 = .ok (.if_icmp .ge 56, 3) := by decide +kernel
theorem dX0_leastIsBass_12 : decode cX0_leastIsBass 12 = .ok (.iload_n 2, 1) := by decide +kernel
theorem dX0_leastIsBass_13 : decode cX0_leastIsBass 13 = .ok (.bipush 6, 2) := by decide +kernel
theorem dX0_leastIsBass_15 : decode cX0_leastIsBass 15 = .ok (.if_icmp .ge 50, 3) := by decide +kernel
theorem dX0_leastIsBass_18 : decode cX0_leastIsBass 18 = .ok (.aload_n 0, 1) := by decide +kernel
theorem dX0_leastIsBass_19 : decode cX0_leastIsBass 19 = .ok (.getfield 9, 3) := by decide +kernel
theorem dX0_leastIsBass_22 : decode cX0_leastIsBass 22 = .ok (.iload_n 2, 1) := by decide +kernel
theorem dX0_leastIsBass_23 : decode cX0_leastIsBass 23 = .ok (.iaload, 1) := by decide +kernel
theorem dX0_leastIsBass_24 : decode cX0_leastIsBass 24 = .ok (.aload_n 0, 1) := by decide +kernel
theorem dX0_leastIsBass_25 : decode cX0_leastIsBass 25 = .ok (.getfield 21, 3) := by decide +kernel
theorem dX0_leastIsBass_28 : decode cX0_leastIsBass 28 = .ok (.iadd, 1) := by decide +kernel
theorem dX0_leastIsBass_29 : decode cX0_leastIsBass 29 = .ok (.aload_n 0, 1) := by decide +kernel
theorem dX0_leastIsBass_30 : decode cX0_leastIsBass 30 = .ok (.getfield 18, 3) := by decide +kernel
theorem dX0_leastIsBass_33 : decode cX0_leastIsBass 33 = .ok (.iload_n 2, 1) := by decide +kernel
theorem dX0_leastIsBass_34 : decode cX0_leastIsBass 34 = .ok (.iaload, 1) := by decide +kernel
theorem dX0_leastIsBass_35 : decode cX0_leastIsBass 35 = .ok (.iadd, 1) := by decide +kernel
theorem dX0_leastIsBass_36 : decode cX0_leastIsBass 36 = .ok (.istore_n 3, 1) := by decide +kernel
theorem dX0_leastIsBass_37 : decode cX0_leastIsBass 37 = .ok (.aload_n 0, 1) := by decide +kernel
theorem dX0_leastIsBass_38 : decode cX0_leastIsBass 38 = .ok (.getfield 18, 3) := by decide +kernel
theorem dX0_leastIsBass_41 : decode cX0_leastIsBass 41 = .ok (.iload_n 2, 1) := by decide +kernel
theorem dX0_leastIsBass_42 : decode cX0_leastIsBass 42 = .ok (.iaload, 1) := by decide +kernel
theorem dX0_leastIsBass_43 : decode cX0_leastIsBass 43 = .ok (.iconst (-1), 1) := by decide +kernel
theorem dX0_leastIsBass_44 : decode cX0_leastIsBass 44 = .ok (.if_icmp .eq 15, 3) := by decide +kernel
theorem dX0_leastIsBass_47 : decode cX0_leastIsBass 47 = .ok (.iload_n 1, 1) := by decide +kernel
theorem dX0_leastIsBass_48 : decode cX0_leastIsBass 48 = .ok (.iconst (-1), 1) := by decide +kernel
theorem dX0_leastIsBass_49 : decode cX0_leastIsBass 49 = .ok (.if_icmp .eq 8, 3) := by decide +kernel
theorem dX0_leastIsBass_52 : decode cX0_leastIsBass 52 = .ok (.iload_n 3, 1) := by decide +kernel
theorem dX0_leastIsBass_53 : decode cX0_leastIsBass 53 = .ok (.iload_n 1, 1) := by decide +kernel
theorem dX0_leastIsBass_54 : decode cX0_leastIsBass 54 = .ok (.if_icmp .ge 5, 3) := by decide +kernel
theorem dX0_leastIsBass_57 : decode cX0_leastIsBass 57 = .ok (.iload_n 3, 1) := by decide +kernel
theorem dX0_leastIsBass_58 : decode cX0_leastIsBass 58 = .ok (.istore_n 1, 1) := by decide +kernel
theorem dX0_leastIsBass_59 : decode cX0_leastIsBass 59 = .ok (.iinc 2 1, 3) := by decide +kernel
theorem dX0_leastIsBass_62 : decode cX0_leastIsBass 62 = .ok (.goto (-58), 3) := by decide +kernel
theorem dX0_leastIsBass_65 : decode cX0_leastIsBass 65 = .ok (.iload_n 1, 1) := by decide +kernel
theorem dX0_leastIsBass_66 : decode cX0_leastIsBass 66 = .ok (.iconst (-1), 1) := by decide +kernel
theorem dX0_leastIsBass_67 : decode cX0_leastIsBass 67 = .ok (.if_icmp .eq 18, 3) := by decide +kernel
theorem dX0_leastIsBass_70 : decode cX0_leastIsBass 70 = .ok (.iload_n 1, 1) := by decide +kernel
theorem dX0_leastIsBass_71 : decode cX0_leastIsBass 71 = .ok (.bipush 12, 2) := by decide +kernel
theorem dX0_leastIsBass_73 : decode cX0_leastIsBass 73 = .ok (.irem, 1) := by decide +kernel
theorem dX0_leastIsBass_74 : decode cX0_leastIsBass 74 = .ok (.aload_n 0, 1) := by decide +kernel
theorem dX0_leastIsBass_75 : decode cX0_leastIsBass 75 = .ok (.getfield 49, 3) := by decide +kernel
theorem dX0_leastIsBass_78 : decode cX0_leastIsBass 78 = .ok (.if_icmp .ne 7, 3) := by decide +kernel
theorem dX0_leastIsBass_81 : decode cX0_leastIsBass 81 = .ok (.iconst 1, 1) := by decide +kernel
theorem dX0_leastIsBass_82 : decode cX0_leastIsBass 82 = .ok (.goto 4, 3) := by decide +kernel
theorem dX0_leastIsBass_85 : decode cX0_leastIsBass 85 = .ok (.iconst 0, 1) := by decide +kernel
theorem dX0_leastIsBass_86 : decode cX0_leastIsBass 86 = .ok (.ireturn, 1) := by decide +kernel
theorem dX0_keep_0 : decode cX0_keep 0 = .ok (.aload_n 0, 1) := by decide +kernel
theorem dX0_keep_1 : decode cX0_keep 1 = .ok (.getfield 52, 3) := by decide +kernel
theorem dX0_keep_4 : decode cX0_keep 4 = .ok (.bipush 6, 2) := by decide +kernel
theorem dX0_keep_6 : decode cX0_keep 6 = .ok (.if_icmp .ge 16, 3) := by decide +kernel
theorem dX0_keep_9 : decode cX0_keep 9 = .ok (.aload_n 0, 1) := by decide +kernel
theorem dX0_keep_10 : decode cX0_keep 10 = .ok (.dup, 1) := by decide +kernel
theorem dX0_keep_11 : decode cX0_keep 11 = .ok (.getfield 52, 3) := by decide +kernel
theorem dX0_keep_14 : decode cX0_keep 14 = .ok (.iconst 1, 1) := by decide +kernel
theorem dX0_keep_15 : decode cX0_keep 15 = .ok (.iadd, 1) := by decide +kernel
theorem dX0_keep_16 : decode cX0_keep 16 = .ok (.putfield 52, 3) := by decide +kernel
theorem dX0_keep_19 : decode cX0_keep 19 = .ok (.goto 14, 3) := by decide +kernel
theorem dX0_keep_22 : decode cX0_keep 22 = .ok (.aload_n 0, 1) := by decide +kernel
theorem dX0_keep_23 : decode cX0_keep 23 = .ok (.getfield 15, 3) := by decide +kernel
theorem dX0_keep_26 : decode cX0_keep 26 = .ok (.iconst 5, 1) := by decide +kernel
theorem dX0_keep_27 : decode cX0_keep 27 = .ok (.iaload, 1) := by decide +kernel
theorem dX0_keep_28 : decode cX0_keep 28 = .ok (.iload_n 1, 1) := by decide +kernel
theorem dX0_keep_29 : decode cX0_keep 29 = .ok (.if_icmp .gt 4, 3) := by decide +kernel
theorem dX0_keep_32 : decode cX0_keep 32 = .ok (.return_, 1) := by decide +kernel
theorem dX0_keep_33 : decode cX0_keep 33 = .ok (.aload_n 0, 1) := by decide +kernel
theorem dX0_keep_34 : decode cX0_keep 34 = .ok (.getfield 52, 3) := by decide +kernel
theorem dX0_keep_37 : decode cX0_keep 37 = .ok (.iconst 1, 1) := by decide +kernel
theorem dX0_keep_38 : decode cX0_keep 38 = .ok (.isub, 1) := by decide +kernel
theorem dX0_keep_39 : decode cX0_keep 39 = .ok (.istore_n 2, 1) := by decide +kernel
theorem dX0_keep_40 : decode cX0_keep 40 = .ok (.iload_n 2, 1) := by decide +kernel
theorem dX0_keep_41 : decode cX0_keep 41 = .ok (.ifCond .le 35, 3) := by decide +kernel
theorem dX0_keep_44 : decode cX0_keep 44 = .ok (.aload_n 0, 1) := by decide +kernel
theorem dX0_keep_45 : decode cX0_keep 45 = .ok (.getfield 15, 3) := by decide +kernel
theorem dX0_keep_48 : decode cX0_keep 48 = .ok (.iload_n 2, 1) := by decide +kernel
theorem dX0_keep_49 : decode cX0_keep 49 = .ok (.iconst 1, 1) := by decide +kernel
theorem dX0_keep_50 : decode cX0_keep 50 = .ok (.isub, 1) := by decide +kernel
theorem dX0_keep_51 : decode cX0_keep 51 = .ok (.iaload, 1) := by decide +kernel
theorem dX0_keep_52 : decode cX0_keep 52 = .ok (.iload_n 1, 1) := by decide +kernel
theorem dX0_keep_53 : decode cX0_keep 53 = .ok (.if_icmp .le 23, 3) := by decide +kernel
theorem dX0_keep_56 : decode cX0_keep 56 = .ok (.aload_n 0, 1) := by decide +kernel
theorem dX0_keep_57 : decode cX0_keep 57 = .ok (.getfield 15, 3) := by decide +kernel
theorem dX0_keep_60 : decode cX0_keep 60 = .ok (.iload_n 2, 1) := by decide +kernel
theorem dX0_keep_61 : decode cX0_keep 61 = .ok (.aload_n 0, 1) := by decide +kernel
theorem dX0_keep_62 : decode cX0_keep 62 = .ok (.getfield 15, 3) := by decide +kernel
theorem dX0_keep_65 : decode cX0_keep 65 = .ok (.iload_n 2, 1) := by decide +kernel
theorem dX0_keep_66 : decode cX0_keep 66 = .ok (.iconst 1, 1) := by decide +kernel
theorem dX0_keep_67 : decode cX0_keep 67 = .ok (.isub, 1) := by decide +kernel
theorem dX0_keep_68 : decode cX0_keep 68 = .ok (.iaload, 1) := by decide +kernel
theorem dX0_keep_69 : decode cX0_keep 69 = .ok (.iastore, 1) := by decide +kernel
theorem dX0_keep_70 : decode cX0_keep 70 = .ok (.iinc 2 (-1), 3) := by decide +kernel
theorem dX0_keep_73 : decode cX0_keep 73 = .ok (.goto (-33), 3) := by decide +kernel
theorem dX0_keep_76 : decode cX0_keep 76 = .ok (.aload_n 0, 1) := by decide +kernel
theorem dX0_keep_77 : decode cX0_keep 77 = .ok (.getfield 15, 3) := by decide +kernel
theorem dX0_keep_80 : decode cX0_keep 80 = .ok (.iload_n 2, 1) := by decide +kernel
theorem dX0_keep_81 : decode cX0_keep 81 = .ok (.iload_n 1, 1) := by decide +kernel
theorem dX0_keep_82 : decode cX0_keep 82 = .ok (.iastore, 1) := by decide +kernel
theorem dX0_keep_83 : decode cX0_keep 83 = .ok (.return_, 1) := by decide +kernel
theorem dX1_of_0 : decode cX1_of 0 = .ok (.iload_n 0, 1) := by decide +kernel
theorem dX1_of_1 : decode cX1_of 1 = .ok (.bipush 24, 2) := by decide +kernel
theorem dX1_of_3 : decode cX1_of 3 = .ok (.ishl, 1) := by decide +kernel
theorem dX1_of_4 : decode cX1_of 4 = .ok (.istore_n 3, 1) := by decide +kernel
theorem dX1_of_5 : decode cX1_of 5 = .ok (.iconst 0, 1) := by decide +kernel
theorem dX1_of_6 : decode cX1_of 6 = .ok (.istore 4, 2) := by decide +kernel
theorem dX1_of_8 : decode cX1_of 8 = .ok (.iload 4, 2) := by decide +kernel
theorem dX1_of_10 : decode cX1_of 10 = .ok (.iload_n 2, 1) := by decide +kernel
theorem dX1_of_11 : decode cX1_of 11 = .ok (.if_icmp .ge 31, 3) := by decide +kernel
theorem dX1_of_14 : decode cX1_of 14 = .ok (.iload 4, 2) := by decide +kernel
theorem dX1_of_16 : decode cX1_of 16 = .ok (.aload_n 1, 1) := by decide +kernel
theorem dX1_of_17 : decode cX1_of 17 = .ok (.arraylength, 1) := by decide +kernel
theorem dX1_of_18 : decode cX1_of 18 = .ok (.if_icmp .ge 24, 3) := by decide +kernel
theorem dX1_of_21 : decode cX1_of 21 = .ok (.iload_n 3, 1) := by decide +kernel
theorem dX1_of_22 : decode cX1_of 22 = .ok (.aload_n 1, 1) := by decide +kernel
theorem dX1_of_23 : decode cX1_of 23 = .ok (.iload 4, 2) := by decide +kernel
theorem dX1_of_25 : decode cX1_of 25 = .ok (.iaload, 1) := by decide +kernel
theorem dX1_of_26 : decode cX1_of 26 = .ok (.iconst 1, 1) := by decide +kernel
theorem dX1_of_27 : decode cX1_of 27 = .ok (.iadd, 1) := by decide +kernel
theorem dX1_of_28 : decode cX1_of 28 = .ok (.iload 4, 2) := by decide +kernel
theorem dX1_of_30 : decode cX1_of 30 = .ok (.invokestatic 11, 3) := by decide +kernel
theorem dX1_of_33 : decode cX1_of 33 = .ok (.ishl, 1) := by decide +kernel
theorem dX1_of_34 : decode cX1_of 34 = .ok (.ior, 1) := by decide +kernel
theorem dX1_of_35 : decode cX1_of 35 = .ok (.istore_n 3, 1) := by decide +kernel
theorem dX1_of_36 : decode cX1_of 36 = .ok (.iinc 4 1, 3) := by decide +kernel
theorem dX1_of_39 : decode cX1_of 39 = .ok (.goto (-31), 3) := by decide +kernel
theorem dX1_of_42 : decode cX1_of 42 = .ok (.iload_n 3, 1) := by decide +kernel
theorem dX1_of_43 : decode cX1_of 43 = .ok (.ireturn, 1) := by decide +kernel
theorem dX1_strainOf_0 : decode cX1_strainOf 0 = .ok (.iload_n 0, 1) := by decide +kernel
theorem dX1_strainOf_1 : decode cX1_strainOf 1 = .ok (.bipush 24, 2) := by decide +kernel
theorem dX1_strainOf_3 : decode cX1_strainOf 3 = .ok (.ishr, 1) := by decide +kernel
theorem dX1_strainOf_4 : decode cX1_strainOf 4 = .ok (.ireturn, 1) := by decide +kernel
theorem dX1_fretOf_0 : decode cX1_fretOf 0 = .ok (.iload_n 0, 1) := by decide +kernel
theorem dX1_fretOf_1 : decode cX1_fretOf 1 = .ok (.iload_n 1, 1) := by decide +kernel
theorem dX1_fretOf_2 : decode cX1_fretOf 2 = .ok (.invokestatic 11, 3) := by decide +kernel
theorem dX1_fretOf_5 : decode cX1_fretOf 5 = .ok (.ishr, 1) := by decide +kernel
theorem dX1_fretOf_6 : decode cX1_fretOf 6 = .ok (.bipush 15, 2) := by decide +kernel
theorem dX1_fretOf_8 : decode cX1_fretOf 8 = .ok (.iand, 1) := by decide +kernel
theorem dX1_fretOf_9 : decode cX1_fretOf 9 = .ok (.iconst 1, 1) := by decide +kernel
theorem dX1_fretOf_10 : decode cX1_fretOf 10 = .ok (.isub, 1) := by decide +kernel
theorem dX1_fretOf_11 : decode cX1_fretOf 11 = .ok (.ireturn, 1) := by decide +kernel
theorem dX1_change_0 : decode cX1_change 0 = .ok (.iconst 0, 1) := by decide +kernel
theorem dX1_change_1 : decode cX1_change 1 = .ok (.istore_n 2, 1) := by decide +kernel
theorem dX1_change_2 : decode cX1_change 2 = .ok (.iconst 0, 1) := by decide +kernel
theorem dX1_change_3 : decode cX1_change 3 = .ok (.istore_n 3, 1) := by decide +kernel
theorem dX1_change_4 : decode cX1_change 4 = .ok (.iload_n 3, 1) := by decide +kernel
theorem dX1_change_5 : decode cX1_change 5 = .ok (.bipush 6, 2) := by decide +kernel
theorem dX1_change_7 : decode cX1_change 7 = .ok (.if_icmp .ge 34, 3) := by decide +kernel
theorem dX1_change_10 : decode cX1_change 10 = .ok (.iload_n 2, 1) := by decide +kernel
theorem dX1_change_11 : decode cX1_change 11 = .ok (.iconst 0, 1) := by decide +kernel
theorem dX1_change_12 : decode cX1_change 12 = .ok (.iload_n 0, 1) := by decide +kernel
theorem dX1_change_13 : decode cX1_change 13 = .ok (.iload_n 3, 1) := by decide +kernel
theorem dX1_change_14 : decode cX1_change 14 = .ok (.invokestatic 15, 3) := by decide +kernel
theorem dX1_change_17 : decode cX1_change 17 = .ok (.invokestatic 19, 3) := by decide +kernel
theorem dX1_change_20 : decode cX1_change 20 = .ok (.iconst 0, 1) := by decide +kernel
theorem dX1_change_21 : decode cX1_change 21 = .ok (.iload_n 1, 1) := by decide +kernel
theorem dX1_change_22 : decode cX1_change 22 = .ok (.iload_n 3, 1) := by decide +kernel
theorem dX1_change_23 : decode cX1_change 23 = .ok (.invokestatic 15, 3) := by decide +kernel
theorem dX1_change_26 : decode cX1_change 26 = .ok (.invokestatic 19, 3) := by decide +kernel
theorem dX1_change_29 : decode cX1_change 29 = .ok (.isub, 1) := by decide +kernel
theorem dX1_change_30 : decode cX1_change 30 = .ok (.invokestatic 24, 3) := by decide +kernel
theorem dX1_change_33 : decode cX1_change 33 = .ok (.iadd, 1) := by decide +kernel
theorem dX1_change_34 : decode cX1_change 34 = .ok (.istore_n 2, 1) := by decide +kernel
theorem dX1_change_35 : decode cX1_change 35 = .ok (.iinc 3 1, 3) := by decide +kernel
theorem dX1_change_38 : decode cX1_change 38 = .ok (.goto (-34), 3) := by decide +kernel
theorem dX1_change_41 : decode cX1_change 41 = .ok (.iload_n 2, 1) := by decide +kernel
theorem dX1_change_42 : decode cX1_change 42 = .ok (.ireturn, 1) := by decide +kernel
theorem dX1_shiftOf_0 : decode cX1_shiftOf 0 = .ok (.iconst 4, 1) := by decide +kernel
theorem dX1_shiftOf_1 : decode cX1_shiftOf 1 = .ok (.iconst 5, 1) := by decide +kernel
theorem dX1_shiftOf_2 : decode cX1_shiftOf 2 = .ok (.iload_n 0, 1) := by decide +kernel
theorem dX1_shiftOf_3 : decode cX1_shiftOf 3 = .ok (.isub, 1) := by decide +kernel
theorem dX1_shiftOf_4 : decode cX1_shiftOf 4 = .ok (.imul, 1) := by decide +kernel
theorem dX1_shiftOf_5 : decode cX1_shiftOf 5 = .ok (.ireturn, 1) := by decide +kernel
theorem dX2_init_0 : decode cX2_init 0 = .ok (.aload_n 0, 1) := by decide +kernel
theorem dX2_init_1 : decode cX2_init 1 = .ok (.invokespecial 3, 3) := by decide +kernel
theorem dX2_init_4 : decode cX2_init 4 = .ok (.aload_n 0, 1) := by decide +kernel
theorem dX2_init_5 : decode cX2_init 5 = .ok (.sipush 2880, 3) := by decide +kernel
theorem dX2_init_8 : decode cX2_init 8 = .ok (.newarray .int, 2) := by decide +kernel
theorem dX2_init_10 : decode cX2_init 10 = .ok (.putfield 9, 3) := by decide +kernel
theorem dX2_init_13 : decode cX2_init 13 = .ok (.aload_n 0, 1) := by decide +kernel
theorem dX2_init_14 : decode cX2_init 14 = .ok (.sipush 480, 3) := by decide +kernel
theorem dX2_init_17 : decode cX2_init 17 = .ok (.newarray .int, 2) := by decide +kernel
theorem dX2_init_19 : decode cX2_init 19 = .ok (.putfield 15, 3) := by decide +kernel
theorem dX2_init_22 : decode cX2_init 22 = .ok (.aload_n 0, 1) := by decide +kernel
theorem dX2_init_23 : decode cX2_init 23 = .ok (.getfield 15, 3) := by decide +kernel
theorem dX2_init_26 : decode cX2_init 26 = .ok (.iconst (-1), 1) := by decide +kernel
theorem dX2_init_27 : decode cX2_init 27 = .ok (.invokestatic 18, 3) := by decide +kernel
theorem dX2_init_30 : decode cX2_init 30 = .ok (.return_, 1) := by decide +kernel
theorem dX2_forget_0 : decode cX2_forget 0 = .ok (.aload_n 0, 1) := by decide +kernel
theorem dX2_forget_1 : decode cX2_forget 1 = .ok (.getfield 15, 3) := by decide +kernel
theorem dX2_forget_4 : decode cX2_forget 4 = .ok (.iconst (-1), 1) := by decide +kernel
theorem dX2_forget_5 : decode cX2_forget 5 = .ok (.invokestatic 18, 3) := by decide +kernel
theorem dX2_forget_8 : decode cX2_forget 8 = .ok (.return_, 1) := by decide +kernel
theorem dX2_pageOf_0 : decode cX2_pageOf 0 = .ok (.aload_n 1, 1) := by decide +kernel
theorem dX2_pageOf_1 : decode cX2_pageOf 1 = .ok (.iload_n 3, 1) := by decide +kernel
theorem dX2_pageOf_2 : decode cX2_pageOf 2 = .ok (.invokevirtual 24, 3) := by decide +kernel
theorem dX2_pageOf_5 : decode cX2_pageOf 5 = .ok (.istore 5, 2) := by decide +kernel
theorem dX2_pageOf_7 : decode cX2_pageOf 7 = .ok (.iload 5, 2) := by decide +kernel
theorem dX2_pageOf_9 : decode cX2_pageOf 9 = .ok (.bipush 8, 2) := by decide +kernel
theorem dX2_pageOf_11 : decode cX2_pageOf 11 = .ok (.imul, 1) := by decide +kernel
theorem dX2_pageOf_12 : decode cX2_pageOf 12 = .ok (.iload 4, 2) := by decide +kernel
theorem dX2_pageOf_14 : decode cX2_pageOf 14 = .ok (.iadd, 1) := by decide +kernel
theorem dX2_pageOf_15 : decode cX2_pageOf 15 = .ok (.istore 6, 2) := by decide +kernel
theorem dX2_pageOf_17 : decode cX2_pageOf 17 = .ok (.aload_n 0, 1) := by decide +kernel
theorem dX2_pageOf_18 : decode cX2_pageOf 18 = .ok (.getfield 15, 3) := by decide +kernel
theorem dX2_pageOf_21 : decode cX2_pageOf 21 = .ok (.iload 6, 2) := by decide +kernel
theorem dX2_pageOf_23 : decode cX2_pageOf 23 = .ok (.iaload, 1) := by decide +kernel
theorem dX2_pageOf_24 : decode cX2_pageOf 24 = .ok (.iconst (-1), 1) := by decide +kernel
theorem dX2_pageOf_25 : decode cX2_pageOf 25 = .ok (.if_icmp .ne 44, 3) := by decide +kernel
theorem dX2_pageOf_28 : decode cX2_pageOf 28 = .ok (.aload_n 2, 1) := by decide +kernel
theorem dX2_pageOf_29 : decode cX2_pageOf 29 = .ok (.aload_n 1, 1) := by decide +kernel
theorem dX2_pageOf_30 : decode cX2_pageOf 30 = .ok (.iload 5, 2) := by decide +kernel
theorem dX2_pageOf_32 : decode cX2_pageOf 32 = .ok (.iload 4, 2) := by decide +kernel
theorem dX2_pageOf_34 : decode cX2_pageOf 34 = .ok (.invokevirtual 30, 3) := by decide +kernel
theorem dX2_pageOf_37 : decode cX2_pageOf 37 = .ok (.aload_n 2, 1) := by decide +kernel
theorem dX2_pageOf_38 : decode cX2_pageOf 38 = .ok (.getfield 36, 3) := by decide +kernel
theorem dX2_pageOf_41 : decode cX2_pageOf 41 = .ok (.iconst 0, 1) := by decide +kernel
theorem dX2_pageOf_42 : decode cX2_pageOf 42 = .ok (.aload_n 0, 1) := by decide +kernel
theorem dX2_pageOf_43 : decode cX2_pageOf 43 = .ok (.getfield 9, 3) := by decide +kernel
theorem dX2_pageOf_46 : decode cX2_pageOf 46 = .ok (.iload 6, 2) := by decide +kernel
theorem dX2_pageOf_48 : decode cX2_pageOf 48 = .ok (.bipush 6, 2) := by decide +kernel
theorem dX2_pageOf_50 : decode cX2_pageOf 50 = .ok (.imul, 1) := by decide +kernel
theorem dX2_pageOf_51 : decode cX2_pageOf 51 = .ok (.aload_n 2, 1) := by decide +kernel
theorem dX2_pageOf_52 : decode cX2_pageOf 52 = .ok (.getfield 39, 3) := by decide +kernel
theorem dX2_pageOf_55 : decode cX2_pageOf 55 = .ok (.invokestatic 42, 3) := by decide +kernel
theorem dX2_pageOf_58 : decode cX2_pageOf 58 = .ok (.aload_n 0, 1) := by decide +kernel
theorem dX2_pageOf_59 : decode cX2_pageOf 59 = .ok (.getfield 15, 3) := by decide +kernel
theorem dX2_pageOf_62 : decode cX2_pageOf 62 = .ok (.iload 6, 2) := by decide +kernel
theorem dX2_pageOf_64 : decode cX2_pageOf 64 = .ok (.aload_n 2, 1) := by decide +kernel
theorem dX2_pageOf_65 : decode cX2_pageOf 65 = .ok (.getfield 39, 3) := by decide +kernel
theorem dX2_pageOf_68 : decode cX2_pageOf 68 = .ok (.iastore, 1) := by decide +kernel
theorem dX2_pageOf_69 : decode cX2_pageOf 69 = .ok (.iload 6, 2) := by decide +kernel
theorem dX2_pageOf_71 : decode cX2_pageOf 71 = .ok (.ireturn, 1) := by decide +kernel
theorem dX3_textOf_0 : decode cX3_textOf 0 = .ok (.iload_n 0, 1) := by decide +kernel
theorem dX3_textOf_1 : decode cX3_textOf 1 = .ok (.tableswitch 106 1 13 #[67, 70, 73, 76, 79, 82, 85, 88, 91, 94, 97, 100, 103], 67) := by decide +kernel
theorem dX3_textOf_68 : decode cX3_textOf 68 = .ok (.ldc 7, 2) := by decide +kernel
theorem dX3_textOf_70 : decode cX3_textOf 70 = .ok (.areturn, 1) := by decide +kernel
theorem dX3_textOf_71 : decode cX3_textOf 71 = .ok (.ldc 9, 2) := by decide +kernel
theorem dX3_textOf_73 : decode cX3_textOf 73 = .ok (.areturn, 1) := by decide +kernel
theorem dX3_textOf_74 : decode cX3_textOf 74 = .ok (.ldc 11, 2) := by decide +kernel
theorem dX3_textOf_76 : decode cX3_textOf 76 = .ok (.areturn, 1) := by decide +kernel
theorem dX3_textOf_77 : decode cX3_textOf 77 = .ok (.ldc 13, 2) := by decide +kernel
theorem dX3_textOf_79 : decode cX3_textOf 79 = .ok (.areturn, 1) := by decide +kernel
theorem dX3_textOf_80 : decode cX3_textOf 80 = .ok (.ldc 15, 2) := by decide +kernel
theorem dX3_textOf_82 : decode cX3_textOf 82 = .ok (.areturn, 1) := by decide +kernel
theorem dX3_textOf_83 : decode cX3_textOf 83 = .ok (.ldc 17, 2) := by decide +kernel
theorem dX3_textOf_85 : decode cX3_textOf 85 = .ok (.areturn, 1) := by decide +kernel
theorem dX3_textOf_86 : decode cX3_textOf 86 = .ok (.ldc 19, 2) := by decide +kernel
theorem dX3_textOf_88 : decode cX3_textOf 88 = .ok (.areturn, 1) := by decide +kernel
theorem dX3_textOf_89 : decode cX3_textOf 89 = .ok (.ldc 21, 2) := by decide +kernel
theorem dX3_textOf_91 : decode cX3_textOf 91 = .ok (.areturn, 1) := by decide +kernel
theorem dX3_textOf_92 : decode cX3_textOf 92 = .ok (.ldc 23, 2) := by decide +kernel
theorem dX3_textOf_94 : decode cX3_textOf 94 = .ok (.areturn, 1) := by decide +kernel
theorem dX3_textOf_95 : decode cX3_textOf 95 = .ok (.ldc 25, 2) := by decide +kernel
theorem dX3_textOf_97 : decode cX3_textOf 97 = .ok (.areturn, 1) := by decide +kernel
theorem dX3_textOf_98 : decode cX3_textOf 98 = .ok (.ldc 27, 2) := by decide +kernel
theorem dX3_textOf_100 : decode cX3_textOf 100 = .ok (.areturn, 1) := by decide +kernel
theorem dX3_textOf_101 : decode cX3_textOf 101 = .ok (.ldc 29, 2) := by decide +kernel
theorem dX3_textOf_103 : decode cX3_textOf 103 = .ok (.areturn, 1) := by decide +kernel
theorem dX3_textOf_104 : decode cX3_textOf 104 = .ok (.ldc 31, 2) := by decide +kernel
theorem dX3_textOf_106 : decode cX3_textOf 106 = .ok (.areturn, 1) := by decide +kernel
theorem dX3_textOf_107 : decode cX3_textOf 107 = .ok (.ldc 33, 2) := by decide +kernel
theorem dX3_textOf_109 : decode cX3_textOf 109 = .ok (.areturn, 1) := by decide +kernel
theorem dX3_tonesAbove_0 : decode cX3_tonesAbove 0 = .ok (.iload_n 1, 1) := by decide +kernel
theorem dX3_tonesAbove_1 : decode cX3_tonesAbove 1 = .ok (.ifCond .lt 11, 3) := by decide +kernel
theorem dX3_tonesAbove_4 : decode cX3_tonesAbove 4 = .ok (.iload_n 1, 1) := by decide +kernel
theorem dX3_tonesAbove_5 : decode cX3_tonesAbove 5 = .ok (.getstatic 35, 3) := by decide +kernel
theorem dX3_tonesAbove_8 : decode cX3_tonesAbove 8 = .ok (.arraylength, 1) := by decide +kernel
theorem dX3_tonesAbove_9 : decode cX3_tonesAbove 9 = .ok (.if_icmp .lt 5, 3) := by decide +kernel
theorem dX3_tonesAbove_12 : decode cX3_tonesAbove 12 = .ok (.iconst 0, 1) := by decide +kernel
theorem dX3_tonesAbove_13 : decode cX3_tonesAbove 13 = .ok (.ireturn, 1) := by decide +kernel
theorem dX3_tonesAbove_14 : decode cX3_tonesAbove 14 = .ok (.getstatic 35, 3) := by decide +kernel
theorem dX3_tonesAbove_17 : decode cX3_tonesAbove 17 = .ok (.iload_n 1, 1) := by decide +kernel
theorem dX3_tonesAbove_18 : decode cX3_tonesAbove 18 = .ok (.iaload, 1) := by decide +kernel
theorem dX3_tonesAbove_19 : decode cX3_tonesAbove 19 = .ok (.iload_n 0, 1) := by decide +kernel
theorem dX3_tonesAbove_20 : decode cX3_tonesAbove 20 = .ok (.ishl, 1) := by decide +kernel
theorem dX3_tonesAbove_21 : decode cX3_tonesAbove 21 = .ok (.istore_n 2, 1) := by decide +kernel
theorem dX3_tonesAbove_22 : decode cX3_tonesAbove 22 = .ok (.iload_n 2, 1) := by decide +kernel
theorem dX3_tonesAbove_23 : decode cX3_tonesAbove 23 = .ok (.iload_n 2, 1) := by decide +kernel
theorem dX3_tonesAbove_24 : decode cX3_tonesAbove 24 = .ok (.bipush 12, 2) := by decide +kernel
theorem dX3_tonesAbove_26 : decode cX3_tonesAbove 26 = .ok (.ishr, 1) := by decide +kernel
theorem dX3_tonesAbove_27 : decode cX3_tonesAbove 27 = .ok (.ior, 1) := by decide +kernel
theorem dX3_tonesAbove_28 : decode cX3_tonesAbove 28 = .ok (.sipush 4095, 3) := by decide +kernel
theorem dX3_tonesAbove_31 : decode cX3_tonesAbove 31 = .ok (.iand, 1) := by decide +kernel
theorem dX3_tonesAbove_32 : decode cX3_tonesAbove 32 = .ok (.ireturn, 1) := by decide +kernel
theorem dX4_toneOf_0 : decode cX4_toneOf 0 = .ok (.bipush 7, 2) := by decide +kernel
theorem dX4_toneOf_2 : decode cX4_toneOf 2 = .ok (.iload_n 0, 1) := by decide +kernel
theorem dX4_toneOf_3 : decode cX4_toneOf 3 = .ok (.imul, 1) := by decide +kernel
theorem dX4_toneOf_4 : decode cX4_toneOf 4 = .ok (.bipush 12, 2) := by decide +kernel
theorem dX4_toneOf_6 : decode cX4_toneOf 6 = .ok (.invokestatic 7, 3) := by decide +kernel
theorem dX4_toneOf_9 : decode cX4_toneOf 9 = .ok (.ireturn, 1) := by decide +kernel
theorem dX4_ofLetter_0 : decode cX4_ofLetter 0 = .ok (.iload_n 0, 1) := by decide +kernel
theorem dX4_ofLetter_1 : decode cX4_ofLetter 1 = .ok (.bipush 65, 2) := by decide +kernel
theorem dX4_ofLetter_3 : decode cX4_ofLetter 3 = .ok (.if_icmp .lt 9, 3) := by decide +kernel
theorem dX4_ofLetter_6 : decode cX4_ofLetter 6 = .ok (.iload_n 0, 1) := by decide +kernel
theorem dX4_ofLetter_7 : decode cX4_ofLetter 7 = .ok (.bipush 71, 2) := by decide +kernel
theorem dX4_ofLetter_9 : decode cX4_ofLetter 9 = .ok (.if_icmp .le 6, 3) := by decide +kernel
theorem dX4_ofLetter_12 : decode cX4_ofLetter 12 = .ok (.bipush (-100), 2) := by decide +kernel
theorem dX4_ofLetter_14 : decode cX4_ofLetter 14 = .ok (.ireturn, 1) := by decide +kernel
theorem dX4_ofLetter_15 : decode cX4_ofLetter 15 = .ok (.ldc 15, 2) := by decide +kernel
theorem dX4_ofLetter_17 : decode cX4_ofLetter 17 = .ok (.iload_n 0, 1) := by decide +kernel
theorem dX4_ofLetter_18 : decode cX4_ofLetter 18 = .ok (.i2c, 1) := by decide +kernel
theorem dX4_ofLetter_19 : decode cX4_ofLetter 19 = .ok (.invokevirtual 17, 3) := by decide +kernel
theorem dX4_ofLetter_22 : decode cX4_ofLetter 22 = .ok (.iconst 1, 1) := by decide +kernel
theorem dX4_ofLetter_23 : decode cX4_ofLetter 23 = .ok (.isub, 1) := by decide +kernel
theorem dX4_ofLetter_24 : decode cX4_ofLetter 24 = .ok (.ireturn, 1) := by decide +kernel
theorem dX4_letterOf_0 : decode cX4_letterOf 0 = .ok (.ldc 15, 2) := by decide +kernel
theorem dX4_letterOf_2 : decode cX4_letterOf 2 = .ok (.iload_n 0, 1) := by decide +kernel
theorem dX4_letterOf_3 : decode cX4_letterOf 3 = .ok (.iconst 1, 1) := by decide +kernel
theorem dX4_letterOf_4 : decode cX4_letterOf 4 = .ok (.iadd, 1) := by decide +kernel
theorem dX4_letterOf_5 : decode cX4_letterOf 5 = .ok (.bipush 7, 2) := by decide +kernel
theorem dX4_letterOf_7 : decode cX4_letterOf 7 = .ok (.invokestatic 7, 3) := by decide +kernel
theorem dX4_letterOf_10 : decode cX4_letterOf 10 = .ok (.invokevirtual 23, 3) := by decide +kernel
theorem dX4_letterOf_13 : decode cX4_letterOf 13 = .ok (.ireturn, 1) := by decide +kernel
theorem dX4_sharpsOf_0 : decode cX4_sharpsOf 0 = .ok (.iload_n 0, 1) := by decide +kernel
theorem dX4_sharpsOf_1 : decode cX4_sharpsOf 1 = .ok (.iconst 1, 1) := by decide +kernel
theorem dX4_sharpsOf_2 : decode cX4_sharpsOf 2 = .ok (.iadd, 1) := by decide +kernel
theorem dX4_sharpsOf_3 : decode cX4_sharpsOf 3 = .ok (.bipush 7, 2) := by decide +kernel
theorem dX4_sharpsOf_5 : decode cX4_sharpsOf 5 = .ok (.invokestatic 27, 3) := by decide +kernel
theorem dX4_sharpsOf_8 : decode cX4_sharpsOf 8 = .ok (.ireturn, 1) := by decide +kernel
theorem dX4_folded_0 : decode cX4_folded 0 = .ok (.iload_n 0, 1) := by decide +kernel
theorem dX4_folded_1 : decode cX4_folded 1 = .ok (.istore_n 1, 1) := by decide +kernel
theorem dX4_folded_2 : decode cX4_folded 2 = .ok (.iload_n 1, 1) := by decide +kernel
theorem dX4_folded_3 : decode cX4_folded 3 = .ok (.bipush 19, 2) := by decide +kernel
theorem dX4_folded_5 : decode cX4_folded 5 = .ok (.if_icmp .le 9, 3) := by decide +kernel
theorem dX4_folded_8 : decode cX4_folded 8 = .ok (.iinc 1 (-12), 3) := by decide +kernel
theorem dX4_folded_11 : decode cX4_folded 11 = .ok (.goto (-9), 3) := by decide +kernel
theorem dX4_folded_14 : decode cX4_folded 14 = .ok (.iload_n 1, 1) := by decide +kernel
theorem dX4_folded_15 : decode cX4_folded 15 = .ok (.bipush (-15), 2) := by decide +kernel
theorem dX4_folded_17 : decode cX4_folded 17 = .ok (.if_icmp .ge 9, 3) := by decide +kernel
theorem dX4_folded_20 : decode cX4_folded 20 = .ok (.iinc 1 12, 3) := by decide +kernel
theorem dX4_folded_23 : decode cX4_folded 23 = .ok (.goto (-9), 3) := by decide +kernel
theorem dX4_folded_26 : decode cX4_folded 26 = .ok (.iload_n 1, 1) := by decide +kernel
theorem dX4_folded_27 : decode cX4_folded 27 = .ok (.ireturn, 1) := by decide +kernel
theorem dX4_scaleOf_0 : decode cX4_scaleOf 0 = .ok (.iconst 0, 1) := by decide +kernel
theorem dX4_scaleOf_1 : decode cX4_scaleOf 1 = .ok (.istore_n 1, 1) := by decide +kernel
theorem dX4_scaleOf_2 : decode cX4_scaleOf 2 = .ok (.iload_n 0, 1) := by decide +kernel
theorem dX4_scaleOf_3 : decode cX4_scaleOf 3 = .ok (.iconst 1, 1) := by decide +kernel
theorem dX4_scaleOf_4 : decode cX4_scaleOf 4 = .ok (.isub, 1) := by decide +kernel
theorem dX4_scaleOf_5 : decode cX4_scaleOf 5 = .ok (.istore_n 2, 1) := by decide +kernel
theorem dX4_scaleOf_6 : decode cX4_scaleOf 6 = .ok (.iload_n 2, 1) := by decide +kernel
theorem dX4_scaleOf_7 : decode cX4_scaleOf 7 = .ok (.iload_n 0, 1) := by decide +kernel
theorem dX4_scaleOf_8 : decode cX4_scaleOf 8 = .ok (.iconst 5, 1) := by decide +kernel
theorem dX4_scaleOf_9 : decode cX4_scaleOf 9 = .ok (.iadd, 1) := by decide +kernel
theorem dX4_scaleOf_10 : decode cX4_scaleOf 10 = .ok (.if_icmp .gt 18, 3) := by decide +kernel
theorem dX4_scaleOf_13 : decode cX4_scaleOf 13 = .ok (.iload_n 1, 1) := by decide +kernel
theorem dX4_scaleOf_14 : decode cX4_scaleOf 14 = .ok (.iconst 1, 1) := by decide +kernel
theorem dX4_scaleOf_15 : decode cX4_scaleOf 15 = .ok (.iload_n 2, 1) := by decide +kernel
theorem dX4_scaleOf_16 : decode cX4_scaleOf 16 = .ok (.invokestatic 30, 3) := by decide +kernel
theorem dX4_scaleOf_19 : decode cX4_scaleOf 19 = .ok (.ishl, 1) := by decide +kernel
theorem dX4_scaleOf_20 : decode cX4_scaleOf 20 = .ok (.ior, 1) := by decide +kernel
theorem dX4_scaleOf_21 : decode cX4_scaleOf 21 = .ok (.istore_n 1, 1) := by decide +kernel
theorem dX4_scaleOf_22 : decode cX4_scaleOf 22 = .ok (.iinc 2 1, 3) := by decide +kernel
theorem dX4_scaleOf_25 : decode cX4_scaleOf 25 = .ok (.goto (-19), 3) := by decide +kernel
theorem dX4_scaleOf_28 : decode cX4_scaleOf 28 = .ok (.iload_n 1, 1) := by decide +kernel
theorem dX4_scaleOf_29 : decode cX4_scaleOf 29 = .ok (.ireturn, 1) := by decide +kernel
theorem dX5_init_0 : decode cX5_init 0 = .ok (.aload_n 0, 1) := by decide +kernel
theorem dX5_init_1 : decode cX5_init 1 = .ok (.invokespecial 3, 3) := by decide +kernel
theorem dX5_init_4 : decode cX5_init 4 = .ok (.aload_n 0, 1) := by decide +kernel
theorem dX5_init_5 : decode cX5_init 5 = .ok (.sipush 4000, 3) := by decide +kernel
theorem dX5_init_8 : decode cX5_init 8 = .ok (.newarray .int, 2) := by decide +kernel
theorem dX5_init_10 : decode cX5_init 10 = .ok (.putfield 9, 3) := by decide +kernel
theorem dX5_init_13 : decode cX5_init 13 = .ok (.return_, 1) := by decide +kernel
theorem dX5_keptLength_0 : decode cX5_keptLength 0 = .ok (.aload_n 0, 1) := by decide +kernel
theorem dX5_keptLength_1 : decode cX5_keptLength 1 = .ok (.getfield 15, 3) := by decide +kernel
theorem dX5_keptLength_4 : decode cX5_keptLength 4 = .ok (.sipush 4000, 3) := by decide +kernel
theorem dX5_keptLength_7 : decode cX5_keptLength 7 = .ok (.invokestatic 19, 3) := by decide +kernel
theorem dX5_keptLength_10 : decode cX5_keptLength 10 = .ok (.ireturn, 1) := by decide +kernel
theorem dX5_put_0 : decode cX5_put 0 = .ok (.aload_n 0, 1) := by decide +kernel
theorem dX5_put_1 : decode cX5_put 1 = .ok (.getfield 15, 3) := by decide +kernel
theorem dX5_put_4 : decode cX5_put 4 = .ok (.ifCond .lt 23, 3) := by decide +kernel
theorem dX5_put_7 : decode cX5_put 7 = .ok (.aload_n 0, 1) := by decide +kernel
theorem dX5_put_8 : decode cX5_put 8 = .ok (.getfield 15, 3) := by decide +kernel
theorem dX5_put_11 : decode cX5_put 11 = .ok (.sipush 4000, 3) := by decide +kernel
theorem dX5_put_14 : decode cX5_put 14 = .ok (.if_icmp .ge 13, 3) := by decide +kernel
theorem dX5_put_17 : decode cX5_put 17 = .ok (.aload_n 0, 1) := by decide +kernel
theorem dX5_put_18 : decode cX5_put 18 = .ok (.getfield 9, 3) := by decide +kernel
theorem dX5_put_21 : decode cX5_put 21 = .ok (.aload_n 0, 1) := by decide +kernel
theorem dX5_put_22 : decode cX5_put 22 = .ok (.getfield 15, 3) := by decide +kernel
theorem dX5_put_25 : decode cX5_put 25 = .ok (.iload_n 1, 1) := by decide +kernel
theorem dX5_put_26 : decode cX5_put 26 = .ok (.iastore, 1) := by decide +kernel
theorem dX5_put_27 : decode cX5_put 27 = .ok (.aload_n 0, 1) := by decide +kernel
theorem dX5_put_28 : decode cX5_put 28 = .ok (.dup, 1) := by decide +kernel
theorem dX5_put_29 : decode cX5_put 29 = .ok (.getfield 15, 3) := by decide +kernel
theorem dX5_put_32 : decode cX5_put 32 = .ok (.iconst 1, 1) := by decide +kernel
theorem dX5_put_33 : decode cX5_put 33 = .ok (.iadd, 1) := by decide +kernel
theorem dX5_put_34 : decode cX5_put 34 = .ok (.putfield 15, 3) := by decide +kernel
theorem dX5_put_37 : decode cX5_put 37 = .ok (.return_, 1) := by decide +kernel
theorem dX5_putMany_0 : decode cX5_putMany 0 = .ok (.iconst 0, 1) := by decide +kernel
theorem dX5_putMany_1 : decode cX5_putMany 1 = .ok (.istore_n 3, 1) := by decide +kernel
theorem dX5_putMany_2 : decode cX5_putMany 2 = .ok (.iload_n 3, 1) := by decide +kernel
theorem dX5_putMany_3 : decode cX5_putMany 3 = .ok (.iload_n 2, 1) := by decide +kernel
theorem dX5_putMany_4 : decode cX5_putMany 4 = .ok (.if_icmp .ge 14, 3) := by decide +kernel
theorem dX5_putMany_7 : decode cX5_putMany 7 = .ok (.aload_n 0, 1) := by decide +kernel
theorem dX5_putMany_8 : decode cX5_putMany 8 = .ok (.iload_n 1, 1) := by decide +kernel
theorem dX5_putMany_9 : decode cX5_putMany 9 = .ok (.invokevirtual 25, 3) := by decide +kernel
theorem dX5_putMany_12 : decode cX5_putMany 12 = .ok (.iinc 3 1, 3) := by decide +kernel
theorem dX5_putMany_15 : decode cX5_putMany 15 = .ok (.goto (-13), 3) := by decide +kernel
theorem dX5_putMany_18 : decode cX5_putMany 18 = .ok (.return_, 1) := by decide +kernel
theorem dX5_putName_0 : decode cX5_putName 0 = .ok (.aload_n 0, 1) := by decide +kernel
theorem dX5_putName_1 : decode cX5_putName 1 = .ok (.aload_n 1, 1) := by decide +kernel
theorem dX5_putName_2 : decode cX5_putName 2 = .ok (.getfield 29, 3) := by decide +kernel
theorem dX5_putName_5 : decode cX5_putName 5 = .ok (.iload_n 2, 1) := by decide +kernel
theorem dX5_putName_6 : decode cX5_putName 6 = .ok (.iaload, 1) := by decide +kernel
theorem dX5_putName_7 : decode cX5_putName 7 = .ok (.invokevirtual 34, 3) := by decide +kernel
theorem dX5_putName_10 : decode cX5_putName 10 = .ok (.aload_n 1, 1) := by decide +kernel
theorem dX5_putName_11 : decode cX5_putName 11 = .ok (.getfield 37, 3) := by decide +kernel
theorem dX5_putName_14 : decode cX5_putName 14 = .ok (.iload_n 2, 1) := by decide +kernel
theorem dX5_putName_15 : decode cX5_putName 15 = .ok (.iaload, 1) := by decide +kernel
theorem dX5_putName_16 : decode cX5_putName 16 = .ok (.invokestatic 40, 3) := by decide +kernel
theorem dX5_putName_19 : decode cX5_putName 19 = .ok (.astore_n 3, 1) := by decide +kernel
theorem dX5_putName_20 : decode cX5_putName 20 = .ok (.iconst 0, 1) := by decide +kernel
theorem dX5_putName_21 : decode cX5_putName 21 = .ok (.istore 4, 2) := by decide +kernel
theorem dX5_putName_23 : decode cX5_putName 23 = .ok (.iload 4, 2) := by decide +kernel
theorem dX5_putName_25 : decode cX5_putName 25 = .ok (.aload_n 3, 1) := by decide +kernel
theorem dX5_putName_26 : decode cX5_putName 26 = .ok (.invokevirtual 46, 3) := by decide +kernel
theorem dX5_putName_29 : decode cX5_putName 29 = .ok (.if_icmp .ge 19, 3) := by decide +kernel
theorem dX5_putName_32 : decode cX5_putName 32 = .ok (.aload_n 0, 1) := by decide +kernel
theorem dX5_putName_33 : decode cX5_putName 33 = .ok (.aload_n 3, 1) := by decide +kernel
theorem dX5_putName_34 : decode cX5_putName 34 = .ok (.iload 4, 2) := by decide +kernel
theorem dX5_putName_36 : decode cX5_putName 36 = .ok (.invokevirtual 51, 3) := by decide +kernel
theorem dX5_putName_39 : decode cX5_putName 39 = .ok (.invokevirtual 25, 3) := by decide +kernel
theorem dX5_putName_42 : decode cX5_putName 42 = .ok (.iinc 4 1, 3) := by decide +kernel
theorem dX5_putName_45 : decode cX5_putName 45 = .ok (.goto (-22), 3) := by decide +kernel
theorem dX5_putName_48 : decode cX5_putName 48 = .ok (.aload_n 1, 1) := by decide +kernel
theorem dX5_putName_49 : decode cX5_putName 49 = .ok (.getfield 55, 3) := by decide +kernel
theorem dX5_putName_52 : decode cX5_putName 52 = .ok (.iload_n 2, 1) := by decide +kernel
theorem dX5_putName_53 : decode cX5_putName 53 = .ok (.iaload, 1) := by decide +kernel
theorem dX5_putName_54 : decode cX5_putName 54 = .ok (.aload_n 1, 1) := by decide +kernel
theorem dX5_putName_55 : decode cX5_putName 55 = .ok (.getfield 29, 3) := by decide +kernel
theorem dX5_putName_58 : decode cX5_putName 58 = .ok (.iload_n 2, 1) := by decide +kernel
theorem dX5_putName_59 : decode cX5_putName 59 = .ok (.iaload, 1) := by decide +kernel
theorem dX5_putName_60 : decode cX5_putName 60 = .ok (.if_icmp .eq 19, 3) := by decide +kernel
theorem dX5_putName_63 : decode cX5_putName 63 = .ok (.aload_n 0, 1) := by decide +kernel
theorem dX5_putName_64 : decode cX5_putName 64 = .ok (.bipush 47, 2) := by decide +kernel
theorem dX5_putName_66 : decode cX5_putName 66 = .ok (.invokevirtual 25, 3) := by decide +kernel
theorem dX5_putName_69 : decode cX5_putName 69 = .ok (.aload_n 0, 1) := by decide +kernel
theorem dX5_putName_70 : decode cX5_putName 70 = .ok (.aload_n 1, 1) := by decide +kernel
theorem dX5_putName_71 : decode cX5_putName 71 = .ok (.getfield 55, 3) := by decide +kernel
theorem dX5_putName_74 : decode cX5_putName 74 = .ok (.iload_n 2, 1) := by decide +kernel
theorem dX5_putName_75 : decode cX5_putName 75 = .ok (.iaload, 1) := by decide +kernel
theorem dX5_putName_76 : decode cX5_putName 76 = .ok (.invokevirtual 34, 3) := by decide +kernel
theorem dX5_putName_79 : decode cX5_putName 79 = .ok (.return_, 1) := by decide +kernel
theorem dX5_putNote_0 : decode cX5_putNote 0 = .ok (.iload_n 1, 1) := by decide +kernel
theorem dX5_putNote_1 : decode cX5_putNote 1 = .ok (.invokestatic 58, 3) := by decide +kernel
theorem dX5_putNote_4 : decode cX5_putNote 4 = .ok (.istore_n 2, 1) := by decide +kernel
theorem dX5_putNote_5 : decode cX5_putNote 5 = .ok (.aload_n 0, 1) := by decide +kernel
theorem dX5_putNote_6 : decode cX5_putNote 6 = .ok (.iload_n 1, 1) := by decide +kernel
theorem dX5_putNote_7 : decode cX5_putNote 7 = .ok (.invokestatic 64, 3) := by decide +kernel
theorem dX5_putNote_10 : decode cX5_putNote 10 = .ok (.invokevirtual 25, 3) := by decide +kernel
theorem dX5_putNote_13 : decode cX5_putNote 13 = .ok (.aload_n 0, 1) := by decide +kernel
theorem dX5_putNote_14 : decode cX5_putNote 14 = .ok (.bipush 35, 2) := by decide +kernel
theorem dX5_putNote_16 : decode cX5_putNote 16 = .ok (.iload_n 2, 1) := by decide +kernel
theorem dX5_putNote_17 : decode cX5_putNote 17 = .ok (.invokevirtual 67, 3) := by decide +kernel
theorem dX5_putNote_20 : decode cX5_putNote 20 = .ok (.aload_n 0, 1) := by decide +kernel
theorem dX5_putNote_21 : decode cX5_putNote 21 = .ok (.bipush 98, 2) := by decide +kernel
theorem dX5_putNote_23 : decode cX5_putNote 23 = .ok (.iload_n 2, 1) := by decide +kernel
theorem dX5_putNote_24 : decode cX5_putNote 24 = .ok (.ineg, 1) := by decide +kernel
theorem dX5_putNote_25 : decode cX5_putNote 25 = .ok (.invokevirtual 67, 3) := by decide +kernel
theorem dX5_putNote_28 : decode cX5_putNote 28 = .ok (.return_, 1) := by decide +kernel
theorem dX6_init_0 : decode cX6_init 0 = .ok (.aload_n 0, 1) := by decide +kernel
theorem dX6_init_1 : decode cX6_init 1 = .ok (.invokespecial 3, 3) := by decide +kernel
theorem dX6_init_4 : decode cX6_init 4 = .ok (.aload_n 0, 1) := by decide +kernel
theorem dX6_init_5 : decode cX6_init 5 = .ok (.sipush 360, 3) := by decide +kernel
theorem dX6_init_8 : decode cX6_init 8 = .ok (.newarray .int, 2) := by decide +kernel
theorem dX6_init_10 : decode cX6_init 10 = .ok (.putfield 9, 3) := by decide +kernel
theorem dX6_init_13 : decode cX6_init 13 = .ok (.aload_n 0, 1) := by decide +kernel
theorem dX6_init_14 : decode cX6_init 14 = .ok (.sipush 360, 3) := by decide +kernel
theorem dX6_init_17 : decode cX6_init 17 = .ok (.newarray .int, 2) := by decide +kernel
theorem dX6_init_19 : decode cX6_init 19 = .ok (.putfield 15, 3) := by decide +kernel
theorem dX6_init_22 : decode cX6_init 22 = .ok (.aload_n 0, 1) := by decide +kernel
theorem dX6_init_23 : decode cX6_init 23 = .ok (.bipush 60, 2) := by decide +kernel
theorem dX6_init_25 : decode cX6_init 25 = .ok (.newarray .int, 2) := by decide +kernel
theorem dX6_init_27 : decode cX6_init 27 = .ok (.putfield 18, 3) := by decide +kernel
theorem dX6_init_30 : decode cX6_init 30 = .ok (.aload_n 0, 1) := by decide +kernel
theorem dX6_init_31 : decode cX6_init 31 = .ok (.iconst (-1), 1) := by decide +kernel
theorem dX6_init_32 : decode cX6_init 32 = .ok (.putfield 21, 3) := by decide +kernel
theorem dX6_init_35 : decode cX6_init 35 = .ok (.return_, 1) := by decide +kernel
theorem dX6_leastSum_0 : decode cX6_leastSum 0 = .ok (.iconst (-1), 1) := by decide +kernel
theorem dX6_leastSum_1 : decode cX6_leastSum 1 = .ok (.istore 5, 2) := by decide +kernel
theorem dX6_leastSum_3 : decode cX6_leastSum 3 = .ok (.aload_n 1, 1) := by decide +kernel
theorem dX6_leastSum_4 : decode cX6_leastSum 4 = .ok (.getfield 25, 3) := by decide +kernel
theorem dX6_leastSum_7 : decode cX6_leastSum 7 = .ok (.iconst 1, 1) := by decide +kernel
theorem dX6_leastSum_8 : decode cX6_leastSum 8 = .ok (.isub, 1) := by decide +kernel
theorem dX6_leastSum_9 : decode cX6_leastSum 9 = .ok (.istore 6, 2) := by decide +kernel
theorem dX6_leastSum_11 : decode cX6_leastSum 11 = .ok (.iload 6, 2) := by decide +kernel
theorem dX6_leastSum_13 : decode cX6_leastSum 13 = .ok (.ifCond .lt 48, 3) := by decide +kernel
theorem dX6_leastSum_16 : decode cX6_leastSum 16 = .ok (.aload_n 3, 1) := by decide +kernel
theorem dX6_leastSum_17 : decode cX6_leastSum 17 = .ok (.aload_n 1, 1) := by decide +kernel
theorem dX6_leastSum_18 : decode cX6_leastSum 18 = .ok (.aload_n 2, 1) := by decide +kernel
theorem dX6_leastSum_19 : decode cX6_leastSum 19 = .ok (.iload 6, 2) := by decide +kernel
theorem dX6_leastSum_21 : decode cX6_leastSum 21 = .ok (.iload 4, 2) := by decide +kernel
theorem dX6_leastSum_23 : decode cX6_leastSum 23 = .ok (.invokevirtual 30, 3) := by decide +kernel
theorem dX6_leastSum_26 : decode cX6_leastSum 26 = .ok (.istore 7, 2) := by decide +kernel
theorem dX6_leastSum_28 : decode cX6_leastSum 28 = .ok (.aload_n 3, 1) := by decide +kernel
theorem dX6_leastSum_29 : decode cX6_leastSum 29 = .ok (.getfield 36, 3) := by decide +kernel
theorem dX6_leastSum_32 : decode cX6_leastSum 32 = .ok (.iload 7, 2) := by decide +kernel
theorem dX6_leastSum_34 : decode cX6_leastSum 34 = .ok (.iaload, 1) := by decide +kernel
theorem dX6_leastSum_35 : decode cX6_leastSum 35 = .ok (.ifCond .ne 5, 3) := by decide +kernel
theorem dX6_leastSum_38 : decode cX6_leastSum 38 = .ok (.iconst (-1), 1) := by decide +kernel
theorem dX6_leastSum_39 : decode cX6_leastSum 39 = .ok (.ireturn, 1) := by decide +kernel
theorem dX6_leastSum_40 : decode cX6_leastSum 40 = .ok (.aload_n 0, 1) := by decide +kernel
theorem dX6_leastSum_41 : decode cX6_leastSum 41 = .ok (.aload_n 3, 1) := by decide +kernel
theorem dX6_leastSum_42 : decode cX6_leastSum 42 = .ok (.iload 6, 2) := by decide +kernel
theorem dX6_leastSum_44 : decode cX6_leastSum 44 = .ok (.iload 7, 2) := by decide +kernel
theorem dX6_leastSum_46 : decode cX6_leastSum 46 = .ok (.iload 5, 2) := by decide +kernel
theorem dX6_leastSum_48 : decode cX6_leastSum 48 = .ok (.invokevirtual 39, 3) := by decide +kernel
theorem dX6_leastSum_51 : decode cX6_leastSum 51 = .ok (.iload 7, 2) := by decide +kernel
theorem dX6_leastSum_53 : decode cX6_leastSum 53 = .ok (.istore 5, 2) := by decide +kernel
theorem dX6_leastSum_55 : decode cX6_leastSum 55 = .ok (.iinc 6 (-1), 3) := by decide +kernel
theorem dX6_leastSum_58 : decode cX6_leastSum 58 = .ok (.goto (-47), 3) := by decide +kernel
theorem dX6_leastSum_61 : decode cX6_leastSum 61 = .ok (.iload 5, 2) := by decide +kernel
theorem dX6_leastSum_63 : decode cX6_leastSum 63 = .ok (.iconst (-1), 1) := by decide +kernel
theorem dX6_leastSum_64 : decode cX6_leastSum 64 = .ok (.if_icmp .ne 5, 3) := by decide +kernel
theorem dX6_leastSum_67 : decode cX6_leastSum 67 = .ok (.iconst (-1), 1) := by decide +kernel
theorem dX6_leastSum_68 : decode cX6_leastSum 68 = .ok (.ireturn, 1) := by decide +kernel
theorem dX6_leastSum_69 : decode cX6_leastSum 69 = .ok (.aload_n 0, 1) := by decide +kernel
theorem dX6_leastSum_70 : decode cX6_leastSum 70 = .ok (.iconst 0, 1) := by decide +kernel
theorem dX6_leastSum_71 : decode cX6_leastSum 71 = .ok (.putfield 43, 3) := by decide +kernel
theorem dX6_leastSum_74 : decode cX6_leastSum 74 = .ok (.iconst 1, 1) := by decide +kernel
theorem dX6_leastSum_75 : decode cX6_leastSum 75 = .ok (.istore 6, 2) := by decide +kernel
theorem dX6_leastSum_77 : decode cX6_leastSum 77 = .ok (.iload 6, 2) := by decide +kernel
theorem dX6_leastSum_79 : decode cX6_leastSum 79 = .ok (.aload_n 3, 1) := by decide +kernel
theorem dX6_leastSum_80 : decode cX6_leastSum 80 = .ok (.getfield 36, 3) := by decide +kernel
theorem dX6_leastSum_83 : decode cX6_leastSum 83 = .ok (.iload 5, 2) := by decide +kernel
theorem dX6_leastSum_85 : decode cX6_leastSum 85 = .ok (.iaload, 1) := by decide +kernel
theorem dX6_leastSum_86 : decode cX6_leastSum 86 = .ok (.if_icmp .ge 34, 3) := by decide +kernel
theorem dX6_leastSum_89 : decode cX6_leastSum 89 = .ok (.aload_n 0, 1) := by decide +kernel
theorem dX6_leastSum_90 : decode cX6_leastSum 90 = .ok (.getfield 9, 3) := by decide +kernel
theorem dX6_leastSum_93 : decode cX6_leastSum 93 = .ok (.iload 6, 2) := by decide +kernel
theorem dX6_leastSum_95 : decode cX6_leastSum 95 = .ok (.iaload, 1) := by decide +kernel
theorem dX6_leastSum_96 : decode cX6_leastSum 96 = .ok (.aload_n 0, 1) := by decide +kernel
theorem dX6_leastSum_97 : decode cX6_leastSum 97 = .ok (.getfield 9, 3) := by decide +kernel
theorem dX6_leastSum_100 : decode cX6_leastSum 100 = .ok (.aload_n 0, 1) := by decide +kernel
theorem dX6_leastSum_101 : decode cX6_leastSum 101 = .ok (.getfield 43, 3) := by decide +kernel
theorem dX6_leastSum_104 : decode cX6_leastSum 104 = .ok (.iaload, 1) := by decide +kernel
theorem dX6_leastSum_105 : decode cX6_leastSum 105 = .ok (.if_icmp .ge 9, 3) := by decide +kernel
theorem dX6_leastSum_108 : decode cX6_leastSum 108 = .ok (.aload_n 0, 1) := by decide +kernel
theorem dX6_leastSum_109 : decode cX6_leastSum 109 = .ok (.iload 6, 2) := by decide +kernel
theorem dX6_leastSum_111 : decode cX6_leastSum 111 = .ok (.putfield 43, 3) := by decide +kernel
theorem dX6_leastSum_114 : decode cX6_leastSum 114 = .ok (.iinc 6 1, 3) := by decide +kernel
theorem dX6_leastSum_117 : decode cX6_leastSum 117 = .ok (.goto (-40), 3) := by decide +kernel
theorem dX6_leastSum_120 : decode cX6_leastSum 120 = .ok (.aload_n 0, 1) := by decide +kernel
theorem dX6_leastSum_121 : decode cX6_leastSum 121 = .ok (.getfield 9, 3) := by decide +kernel
theorem dX6_leastSum_124 : decode cX6_leastSum 124 = .ok (.aload_n 0, 1) := by decide +kernel
theorem dX6_leastSum_125 : decode cX6_leastSum 125 = .ok (.getfield 43, 3) := by decide +kernel
theorem dX6_leastSum_128 : decode cX6_leastSum 128 = .ok (.iaload, 1) := by decide +kernel
theorem dX6_leastSum_129 : decode cX6_leastSum 129 = .ok (.ireturn, 1) := by decide +kernel
theorem dX6_weigh_0 : decode cX6_weigh 0 = .ok (.iconst 0, 1) := by decide +kernel
theorem dX6_weigh_1 : decode cX6_weigh 1 = .ok (.istore 5, 2) := by decide +kernel
theorem dX6_weigh_3 : decode cX6_weigh 3 = .ok (.iload 5, 2) := by decide +kernel
theorem dX6_weigh_5 : decode cX6_weigh 5 = .ok (.aload_n 1, 1) := by decide +kernel
theorem dX6_weigh_6 : decode cX6_weigh 6 = .ok (.getfield 36, 3) := by decide +kernel
theorem dX6_weigh_9 : decode cX6_weigh 9 = .ok (.iload_n 3, 1) := by decide +kernel
theorem dX6_weigh_10 : decode cX6_weigh 10 = .ok (.iaload, 1) := by decide +kernel
theorem dX6_weigh_11 : decode cX6_weigh 11 = .ok (.if_icmp .ge 146, 3) := by decide +kernel
theorem dX6_weigh_14 : decode cX6_weigh 14 = .ok (.aload_n 1, 1) := by decide +kernel
theorem dX6_weigh_15 : decode cX6_weigh 15 = .ok (.getfield 46, 3) := by decide +kernel
theorem dX6_weigh_18 : decode cX6_weigh 18 = .ok (.iload_n 3, 1) := by decide +kernel
theorem dX6_weigh_19 : decode cX6_weigh 19 = .ok (.bipush 6, 2) := by decide +kernel
theorem dX6_weigh_21 : decode cX6_weigh 21 = .ok (.imul, 1) := by decide +kernel
theorem dX6_weigh_22 : decode cX6_weigh 22 = .ok (.iload 5, 2) := by decide +kernel
theorem dX6_weigh_24 : decode cX6_weigh 24 = .ok (.iadd, 1) := by decide +kernel
theorem dX6_weigh_25 : decode cX6_weigh 25 = .ok (.iaload, 1) := by decide +kernel
theorem dX6_weigh_26 : decode cX6_weigh 26 = .ok (.istore 6, 2) := by decide +kernel
theorem dX6_weigh_28 : decode cX6_weigh 28 = .ok (.iconst 0, 1) := by decide +kernel
theorem dX6_weigh_29 : decode cX6_weigh 29 = .ok (.istore 7, 2) := by decide +kernel
theorem dX6_weigh_31 : decode cX6_weigh 31 = .ok (.iconst (-1), 1) := by decide +kernel
theorem dX6_weigh_32 : decode cX6_weigh 32 = .ok (.istore 8, 2) := by decide +kernel
theorem dX6_weigh_34 : decode cX6_weigh 34 = .ok (.iconst 0, 1) := by decide +kernel
theorem dX6_weigh_35 : decode cX6_weigh 35 = .ok (.istore 9, 2) := by decide +kernel
theorem dX6_weigh_37 : decode cX6_weigh 37 = .ok (.iload 4, 2) := by decide +kernel
theorem dX6_weigh_39 : decode cX6_weigh 39 = .ok (.iconst (-1), 1) := by decide +kernel
theorem dX6_weigh_40 : decode cX6_weigh 40 = .ok (.if_icmp .eq 77, 3) := by decide +kernel
theorem dX6_weigh_43 : decode cX6_weigh 43 = .ok (.iload 9, 2) := by decide +kernel
theorem dX6_weigh_45 : decode cX6_weigh 45 = .ok (.aload_n 1, 1) := by decide +kernel
theorem dX6_weigh_46 : decode cX6_weigh 46 = .ok (.getfield 36, 3) := by decide +kernel
theorem dX6_weigh_49 : decode cX6_weigh 49 = .ok (.iload 4, 2) := by decide +kernel
theorem dX6_weigh_51 : decode cX6_weigh 51 = .ok (.iaload, 1) := by decide +kernel
theorem dX6_weigh_52 : decode cX6_weigh 52 = .ok (.if_icmp .ge 65, 3) := by decide +kernel
theorem dX6_weigh_55 : decode cX6_weigh 55 = .ok (.aload_n 0, 1) := by decide +kernel
theorem dX6_weigh_56 : decode cX6_weigh 56 = .ok (.getfield 9, 3) := by decide +kernel
theorem dX6_weigh_59 : decode cX6_weigh 59 = .ok (.iload_n 2, 1) := by decide +kernel
theorem dX6_weigh_60 : decode cX6_weigh 60 = .ok (.iconst 1, 1) := by decide +kernel
theorem dX6_weigh_61 : decode cX6_weigh 61 = .ok (.iadd, 1) := by decide +kernel
theorem dX6_weigh_62 : decode cX6_weigh 62 = .ok (.bipush 6, 2) := by decide +kernel
theorem dX6_weigh_64 : decode cX6_weigh 64 = .ok (.imul, 1) := by decide +kernel
theorem dX6_weigh_65 : decode cX6_weigh 65 = .ok (.iload 9, 2) := by decide +kernel
theorem dX6_weigh_67 : decode cX6_weigh 67 = .ok (.iadd, 1) := by decide +kernel
theorem dX6_weigh_68 : decode cX6_weigh 68 = .ok (.iaload, 1) := by decide +kernel
theorem dX6_weigh_69 : decode cX6_weigh 69 = .ok (.iload 6, 2) := by decide +kernel
theorem dX6_weigh_71 : decode cX6_weigh 71 = .ok (.aload_n 1, 1) := by decide +kernel
theorem dX6_weigh_72 : decode cX6_weigh 72 = .ok (.getfield 46, 3) := by decide +kernel
theorem dX6_weigh_75 : decode cX6_weigh 75 = .ok (.iload 4, 2) := by decide +kernel
theorem dX6_weigh_77 : decode cX6_weigh 77 = .ok (.bipush 6, 2) := by decide +kernel
theorem dX6_weigh_79 : decode cX6_weigh 79 = .ok (.imul, 1) := by decide +kernel
theorem dX6_weigh_80 : decode cX6_weigh 80 = .ok (.iload 9, 2) := by decide +kernel
theorem dX6_weigh_82 : decode cX6_weigh 82 = .ok (.iadd, 1) := by decide +kernel
theorem dX6_weigh_83 : decode cX6_weigh 83 = .ok (.iaload, 1) := by decide +kernel
theorem dX6_weigh_84 : decode cX6_weigh 84 = .ok (.invokestatic 49, 3) := by decide +kernel
theorem dX6_weigh_87 : decode cX6_weigh 87 = .ok (.iadd, 1) := by decide +kernel
theorem dX6_weigh_88 : decode cX6_weigh 88 = .ok (.istore 10, 2) := by decide +kernel
theorem dX6_weigh_90 : decode cX6_weigh 90 = .ok (.iload 8, 2) := by decide +kernel
theorem dX6_weigh_92 : decode cX6_weigh 92 = .ok (.iconst (-1), 1) := by decide +kernel
theorem dX6_weigh_93 : decode cX6_weigh 93 = .ok (.if_icmp .eq 10, 3) := by decide +kernel
theorem dX6_weigh_96 : decode cX6_weigh 96 = .ok (.iload 10, 2) := by decide +kernel
theorem dX6_weigh_98 : decode cX6_weigh 98 = .ok (.iload 7, 2) := by decide +kernel
theorem dX6_weigh_100 : decode cX6_weigh 100 = .ok (.if_icmp .ge 11, 3) := by decide +kernel
theorem dX6_weigh_103 : decode cX6_weigh 103 = .ok (.iload 10, 2) := by decide +kernel
theorem dX6_weigh_105 : decode cX6_weigh 105 = .ok (.istore 7, 2) := by decide +kernel
theorem dX6_weigh_107 : decode cX6_weigh 107 = .ok (.iload 9, 2) := by decide +kernel
theorem dX6_weigh_109 : decode cX6_weigh 109 = .ok (.istore 8, 2) := by decide +kernel
theorem dX6_weigh_111 : decode cX6_weigh 111 = .ok (.iinc 9 1, 3) := by decide +kernel
theorem dX6_weigh_114 : decode cX6_weigh 114 = .ok (.goto (-77), 3) := by decide +kernel
theorem dX6_weigh_117 : decode cX6_weigh 117 = .ok (.aload_n 0, 1) := by decide +kernel
theorem dX6_weigh_118 : decode cX6_weigh 118 = .ok (.getfield 9, 3) := by decide +kernel
theorem dX6_weigh_121 : decode cX6_weigh 121 = .ok (.iload_n 2, 1) := by decide +kernel
theorem dX6_weigh_122 : decode cX6_weigh 122 = .ok (.bipush 6, 2) := by decide +kernel
theorem dX6_weigh_124 : decode cX6_weigh 124 = .ok (.imul, 1) := by decide +kernel
theorem dX6_weigh_125 : decode cX6_weigh 125 = .ok (.iload 5, 2) := by decide +kernel
theorem dX6_weigh_127 : decode cX6_weigh 127 = .ok (.iadd, 1) := by decide +kernel
theorem dX6_weigh_128 : decode cX6_weigh 128 = .ok (.iload 6, 2) := by decide +kernel
theorem dX6_weigh_130 : decode cX6_weigh 130 = .ok (.invokestatic 55, 3) := by decide +kernel
theorem dX6_weigh_133 : decode cX6_weigh 133 = .ok (.iload 7, 2) := by decide +kernel
theorem dX6_weigh_135 : decode cX6_weigh 135 = .ok (.iadd, 1) := by decide +kernel
theorem dX6_weigh_136 : decode cX6_weigh 136 = .ok (.iastore, 1) := by decide +kernel
theorem dX6_weigh_137 : decode cX6_weigh 137 = .ok (.aload_n 0, 1) := by decide +kernel
theorem dX6_weigh_138 : decode cX6_weigh 138 = .ok (.getfield 15, 3) := by decide +kernel
theorem dX6_weigh_141 : decode cX6_weigh 141 = .ok (.iload_n 2, 1) := by decide +kernel
theorem dX6_weigh_142 : decode cX6_weigh 142 = .ok (.bipush 6, 2) := by decide +kernel
theorem dX6_weigh_144 : decode cX6_weigh 144 = .ok (.imul, 1) := by decide +kernel
theorem dX6_weigh_145 : decode cX6_weigh 145 = .ok (.iload 5, 2) := by decide +kernel
theorem dX6_weigh_147 : decode cX6_weigh 147 = .ok (.iadd, 1) := by decide +kernel
theorem dX6_weigh_148 : decode cX6_weigh 148 = .ok (.iload 8, 2) := by decide +kernel
theorem dX6_weigh_150 : decode cX6_weigh 150 = .ok (.iastore, 1) := by decide +kernel
theorem dX6_weigh_151 : decode cX6_weigh 151 = .ok (.iinc 5 1, 3) := by decide +kernel
theorem dX6_weigh_154 : decode cX6_weigh 154 = .ok (.goto (-151), 3) := by decide +kernel
theorem dX6_weigh_157 : decode cX6_weigh 157 = .ok (.return_, 1) := by decide +kernel
theorem dX6_keepAt_0 : decode cX6_keepAt 0 = .ok (.aload_n 0, 1) := by decide +kernel
theorem dX6_keepAt_1 : decode cX6_keepAt 1 = .ok (.getfield 43, 3) := by decide +kernel
theorem dX6_keepAt_4 : decode cX6_keepAt 4 = .ok (.istore_n 3, 1) := by decide +kernel
theorem dX6_keepAt_5 : decode cX6_keepAt 5 = .ok (.iconst 0, 1) := by decide +kernel
theorem dX6_keepAt_6 : decode cX6_keepAt 6 = .ok (.istore 4, 2) := by decide +kernel
theorem dX6_keepAt_8 : decode cX6_keepAt 8 = .ok (.iload 4, 2) := by decide +kernel
theorem dX6_keepAt_10 : decode cX6_keepAt 10 = .ok (.iload_n 1, 1) := by decide +kernel
theorem dX6_keepAt_11 : decode cX6_keepAt 11 = .ok (.if_icmp .ge 47, 3) := by decide +kernel
theorem dX6_keepAt_14 : decode cX6_keepAt 14 = .ok (.iload 4, 2) := by decide +kernel
theorem dX6_keepAt_16 : decode cX6_keepAt 16 = .ok (.bipush 60, 2) := by decide +kernel
theorem dX6_keepAt_18 : decode cX6_keepAt 18 = .ok (.if_icmp .ge 40, 3) := by decide +kernel
theorem dX6_keepAt_21 : decode cX6_keepAt 21 = .ok (.iload_n 3, 1) := by decide +kernel
theorem dX6_keepAt_22 : decode cX6_keepAt 22 = .ok (.ifCond .lt 36, 3) := by decide +kernel
theorem dX6_keepAt_25 : decode cX6_keepAt 25 = .ok (.iload_n 3, 1) := by decide +kernel
theorem dX6_keepAt_26 : decode cX6_keepAt 26 = .ok (.bipush 6, 2) := by decide +kernel
theorem dX6_keepAt_28 : decode cX6_keepAt 28 = .ok (.if_icmp .ge 30, 3) := by decide +kernel
theorem dX6_keepAt_31 : decode cX6_keepAt 31 = .ok (.aload_n 0, 1) := by decide +kernel
theorem dX6_keepAt_32 : decode cX6_keepAt 32 = .ok (.getfield 18, 3) := by decide +kernel
theorem dX6_keepAt_35 : decode cX6_keepAt 35 = .ok (.iload 4, 2) := by decide +kernel
theorem dX6_keepAt_37 : decode cX6_keepAt 37 = .ok (.iload_n 3, 1) := by decide +kernel
theorem dX6_keepAt_38 : decode cX6_keepAt 38 = .ok (.iastore, 1) := by decide +kernel
theorem dX6_keepAt_39 : decode cX6_keepAt 39 = .ok (.aload_n 0, 1) := by decide +kernel
theorem dX6_keepAt_40 : decode cX6_keepAt 40 = .ok (.getfield 15, 3) := by decide +kernel
theorem dX6_keepAt_43 : decode cX6_keepAt 43 = .ok (.iload 4, 2) := by decide +kernel
theorem dX6_keepAt_45 : decode cX6_keepAt 45 = .ok (.bipush 6, 2) := by decide +kernel
theorem dX6_keepAt_47 : decode cX6_keepAt 47 = .ok (.imul, 1) := by decide +kernel
theorem dX6_keepAt_48 : decode cX6_keepAt 48 = .ok (.iload_n 3, 1) := by decide +kernel
theorem dX6_keepAt_49 : decode cX6_keepAt 49 = .ok (.iadd, 1) := by decide +kernel
theorem dX6_keepAt_50 : decode cX6_keepAt 50 = .ok (.iaload, 1) := by decide +kernel
theorem dX6_keepAt_51 : decode cX6_keepAt 51 = .ok (.istore_n 3, 1) := by decide +kernel
theorem dX6_keepAt_52 : decode cX6_keepAt 52 = .ok (.iinc 4 1, 3) := by decide +kernel
theorem dX6_keepAt_55 : decode cX6_keepAt 55 = .ok (.goto (-47), 3) := by decide +kernel
theorem dX6_keepAt_58 : decode cX6_keepAt 58 = .ok (.aload_n 0, 1) := by decide +kernel
theorem dX6_keepAt_59 : decode cX6_keepAt 59 = .ok (.iload_n 2, 1) := by decide +kernel
theorem dX6_keepAt_60 : decode cX6_keepAt 60 = .ok (.putfield 21, 3) := by decide +kernel
theorem dX6_keepAt_63 : decode cX6_keepAt 63 = .ok (.return_, 1) := by decide +kernel
theorem dX7_init_0 : decode cX7_init 0 = .ok (.aload_n 0, 1) := by decide +kernel
theorem dX7_init_1 : decode cX7_init 1 = .ok (.invokespecial 3, 3) := by decide +kernel
theorem dX7_init_4 : decode cX7_init 4 = .ok (.aload_n 0, 1) := by decide +kernel
theorem dX7_init_5 : decode cX7_init 5 = .ok (.iconst 0, 1) := by decide +kernel
theorem dX7_init_6 : decode cX7_init 6 = .ok (.newarray .int, 2) := by decide +kernel
theorem dX7_init_8 : decode cX7_init 8 = .ok (.putfield 9, 3) := by decide +kernel
theorem dX7_init_11 : decode cX7_init 11 = .ok (.aload_n 0, 1) := by decide +kernel
theorem dX7_init_12 : decode cX7_init 12 = .ok (.iconst (-1), 1) := by decide +kernel
theorem dX7_init_13 : decode cX7_init 13 = .ok (.putfield 15, 3) := by decide +kernel
theorem dX7_init_16 : decode cX7_init 16 = .ok (.return_, 1) := by decide +kernel
theorem dX7_readInto_0 : decode cX7_readInto 0 = .ok (.aload_n 0, 1) := by decide +kernel
theorem dX7_readInto_1 : decode cX7_readInto 1 = .ok (.aload_n 2, 1) := by decide +kernel
theorem dX7_readInto_2 : decode cX7_readInto 2 = .ok (.putfield 9, 3) := by decide +kernel
theorem dX7_readInto_5 : decode cX7_readInto 5 = .ok (.aload_n 0, 1) := by decide +kernel
theorem dX7_readInto_6 : decode cX7_readInto 6 = .ok (.iload_n 3, 1) := by decide +kernel
theorem dX7_readInto_7 : decode cX7_readInto 7 = .ok (.aload_n 2, 1) := by decide +kernel
theorem dX7_readInto_8 : decode cX7_readInto 8 = .ok (.arraylength, 1) := by decide +kernel
theorem dX7_readInto_9 : decode cX7_readInto 9 = .ok (.invokestatic 19, 3) := by decide +kernel
theorem dX7_readInto_12 : decode cX7_readInto 12 = .ok (.putfield 25, 3) := by decide +kernel
theorem dX7_readInto_15 : decode cX7_readInto 15 = .ok (.aload_n 0, 1) := by decide +kernel
theorem dX7_readInto_16 : decode cX7_readInto 16 = .ok (.iconst 0, 1) := by decide +kernel
theorem dX7_readInto_17 : decode cX7_readInto 17 = .ok (.putfield 28, 3) := by decide +kernel
theorem dX7_readInto_20 : decode cX7_readInto 20 = .ok (.aload_n 0, 1) := by decide +kernel
theorem dX7_readInto_21 : decode cX7_readInto 21 = .ok (.iconst 0, 1) := by decide +kernel
theorem dX7_readInto_22 : decode cX7_readInto 22 = .ok (.putfield 31, 3) := by decide +kernel
theorem dX7_readInto_25 : decode cX7_readInto 25 = .ok (.aload_n 0, 1) := by decide +kernel
theorem dX7_readInto_26 : decode cX7_readInto 26 = .ok (.iconst (-1), 1) := by decide +kernel
theorem dX7_readInto_27 : decode cX7_readInto 27 = .ok (.putfield 15, 3) := by decide +kernel
theorem dX7_readInto_30 : decode cX7_readInto 30 = .ok (.aload_n 1, 1) := by decide +kernel
theorem dX7_readInto_31 : decode cX7_readInto 31 = .ok (.invokevirtual 34, 3) := by decide +kernel
theorem dX7_readInto_34 : decode cX7_readInto 34 = .ok (.iconst 0, 1) := by decide +kernel
theorem dX7_readInto_35 : decode cX7_readInto 35 = .ok (.istore 4, 2) := by decide +kernel
theorem dX7_readInto_37 : decode cX7_readInto 37 = .ok (.iload 4, 2) := by decide +kernel
theorem dX7_readInto_39 : decode cX7_readInto 39 = .ok (.aload_n 0, 1) := by decide +kernel
theorem dX7_readInto_40 : decode cX7_readInto 40 = .ok (.getfield 25, 3) := by decide +kernel
theorem dX7_readInto_43 : decode cX7_readInto 43 = .ok (.if_icmp .ge 32, 3) := by decide +kernel
theorem dX7_readInto_46 : decode cX7_readInto 46 = .ok (.aload_n 0, 1) := by decide +kernel
theorem dX7_readInto_47 : decode cX7_readInto 47 = .ok (.getfield 28, 3) := by decide +kernel
theorem dX7_readInto_50 : decode cX7_readInto 50 = .ok (.aload_n 0, 1) := by decide +kernel
theorem dX7_readInto_51 : decode cX7_readInto 51 = .ok (.getfield 25, 3) := by decide +kernel
theorem dX7_readInto_54 : decode cX7_readInto 54 = .ok (.if_icmp .ge 21, 3) := by decide +kernel
theorem dX7_readInto_57 : decode cX7_readInto 57 = .ok (.aload_n 0, 1) := by decide +kernel
theorem dX7_readInto_58 : decode cX7_readInto 58 = .ok (.getfield 31, 3) := by decide +kernel
theorem dX7_readInto_61 : decode cX7_readInto 61 = .ok (.ifCond .ne 14, 3) := by decide +kernel
theorem dX7_readInto_64 : decode cX7_readInto 64 = .ok (.aload_n 0, 1) := by decide +kernel
theorem dX7_readInto_65 : decode cX7_readInto 65 = .ok (.aload_n 1, 1) := by decide +kernel
theorem dX7_readInto_66 : decode cX7_readInto 66 = .ok (.invokevirtual 39, 3) := by decide +kernel
theorem dX7_readInto_69 : decode cX7_readInto 69 = .ok (.iinc 4 1, 3) := by decide +kernel
theorem dX7_readInto_72 : decode cX7_readInto 72 = .ok (.goto (-35), 3) := by decide +kernel
theorem dX7_readInto_75 : decode cX7_readInto 75 = .ok (.return_, 1) := by decide +kernel
theorem dX7_readItem_0 : decode cX7_readItem 0 = .ok (.aload_n 0, 1) := by decide +kernel
theorem dX7_readItem_1 : decode cX7_readItem 1 = .ok (.aload_n 0, 1) := by decide +kernel
theorem dX7_readItem_2 : decode cX7_readItem 2 = .ok (.getfield 28, 3) := by decide +kernel
theorem dX7_readItem_5 : decode cX7_readItem 5 = .ok (.invokevirtual 43, 3) := by decide +kernel
theorem dX7_readItem_8 : decode cX7_readItem 8 = .ok (.istore_n 2, 1) := by decide +kernel
theorem dX7_readItem_9 : decode cX7_readItem 9 = .ok (.iload_n 2, 1) := by decide +kernel
theorem dX7_readItem_10 : decode cX7_readItem 10 = .ok (.bipush 91, 2) := by decide +kernel
theorem dX7_readItem_12 : decode cX7_readItem 12 = .ok (.if_icmp .ne 11, 3) := by decide +kernel
theorem dX7_readItem_15 : decode cX7_readItem 15 = .ok (.aload_n 0, 1) := by decide +kernel
theorem dX7_readItem_16 : decode cX7_readItem 16 = .ok (.aload_n 1, 1) := by decide +kernel
theorem dX7_readItem_17 : decode cX7_readItem 17 = .ok (.invokevirtual 47, 3) := by decide +kernel
theorem dX7_readItem_20 : decode cX7_readItem 20 = .ok (.goto 58, 3) := by decide +kernel
theorem dX7_readItem_23 : decode cX7_readItem 23 = .ok (.iload_n 2, 1) := by decide +kernel
theorem dX7_readItem_24 : decode cX7_readItem 24 = .ok (.bipush 10, 2) := by decide +kernel
theorem dX7_readItem_26 : decode cX7_readItem 26 = .ok (.if_icmp .ne 11, 3) := by decide +kernel
theorem dX7_readItem_29 : decode cX7_readItem 29 = .ok (.aload_n 0, 1) := by decide +kernel
theorem dX7_readItem_30 : decode cX7_readItem 30 = .ok (.aload_n 1, 1) := by decide +kernel
theorem dX7_readItem_31 : decode cX7_readItem 31 = .ok (.invokevirtual 50, 3) := by decide +kernel
theorem dX7_readItem_34 : decode cX7_readItem 34 = .ok (.goto 44, 3) := by decide +kernel
theorem dX7_readItem_37 : decode cX7_readItem 37 = .ok (.iload_n 2, 1) := by decide +kernel
theorem dX7_readItem_38 : decode cX7_readItem 38 = .ok (.bipush 32, 2) := by decide +kernel
theorem dX7_readItem_40 : decode cX7_readItem 40 = .ok (.if_icmp .lt 15, 3) := by decide +kernel
theorem dX7_readItem_43 : decode cX7_readItem 43 = .ok (.iload_n 2, 1) := by decide +kernel
theorem dX7_readItem_44 : decode cX7_readItem 44 = .ok (.bipush 126, 2) := by decide +kernel
theorem dX7_readItem_46 : decode cX7_readItem 46 = .ok (.if_icmp .gt 9, 3) := by decide +kernel
theorem dX7_readItem_49 : decode cX7_readItem 49 = .ok (.iload_n 2, 1) := by decide +kernel
theorem dX7_readItem_50 : decode cX7_readItem 50 = .ok (.bipush 93, 2) := by decide +kernel
theorem dX7_readItem_52 : decode cX7_readItem 52 = .ok (.if_icmp .ne 11, 3) := by decide +kernel
theorem dX7_readItem_55 : decode cX7_readItem 55 = .ok (.aload_n 0, 1) := by decide +kernel
theorem dX7_readItem_56 : decode cX7_readItem 56 = .ok (.iconst 1, 1) := by decide +kernel
theorem dX7_readItem_57 : decode cX7_readItem 57 = .ok (.invokevirtual 53, 3) := by decide +kernel
theorem dX7_readItem_60 : decode cX7_readItem 60 = .ok (.goto 18, 3) := by decide +kernel
theorem dX7_readItem_63 : decode cX7_readItem 63 = .ok (.aload_n 1, 1) := by decide +kernel
theorem dX7_readItem_64 : decode cX7_readItem 64 = .ok (.iload_n 2, 1) := by decide +kernel
theorem dX7_readItem_65 : decode cX7_readItem 65 = .ok (.invokevirtual 57, 3) := by decide +kernel
theorem dX7_readItem_68 : decode cX7_readItem 68 = .ok (.aload_n 0, 1) := by decide +kernel
theorem dX7_readItem_69 : decode cX7_readItem 69 = .ok (.dup, 1) := by decide +kernel
theorem dX7_readItem_70 : decode cX7_readItem 70 = .ok (.getfield 28, 3) := by decide +kernel
theorem dX7_readItem_73 : decode cX7_readItem 73 = .ok (.iconst 1, 1) := by decide +kernel
theorem dX7_readItem_74 : decode cX7_readItem 74 = .ok (.iadd, 1) := by decide +kernel
theorem dX7_readItem_75 : decode cX7_readItem 75 = .ok (.putfield 28, 3) := by decide +kernel
theorem dX7_readItem_78 : decode cX7_readItem 78 = .ok (.return_, 1) := by decide +kernel
theorem dX7_readLineEnd_0 : decode cX7_readLineEnd 0 = .ok (.aload_n 1, 1) := by decide +kernel
theorem dX7_readLineEnd_1 : decode cX7_readLineEnd 1 = .ok (.getfield 60, 3) := by decide +kernel
theorem dX7_readLineEnd_4 : decode cX7_readLineEnd 4 = .ok (.bipush 40, 2) := by decide +kernel
theorem dX7_readLineEnd_6 : decode cX7_readLineEnd 6 = .ok (.if_icmp .lt 9, 3) := by decide +kernel
theorem dX7_readLineEnd_9 : decode cX7_readLineEnd 9 = .ok (.aload_n 0, 1) := by decide +kernel
theorem dX7_readLineEnd_10 : decode cX7_readLineEnd 10 = .ok (.iconst 2, 1) := by decide +kernel
theorem dX7_readLineEnd_11 : decode cX7_readLineEnd 11 = .ok (.invokevirtual 53, 3) := by decide +kernel
theorem dX7_readLineEnd_14 : decode cX7_readLineEnd 14 = .ok (.return_, 1) := by decide +kernel
theorem dX7_readLineEnd_15 : decode cX7_readLineEnd 15 = .ok (.aload_n 1, 1) := by decide +kernel
theorem dX7_readLineEnd_16 : decode cX7_readLineEnd 16 = .ok (.invokevirtual 63, 3) := by decide +kernel
theorem dX7_readLineEnd_19 : decode cX7_readLineEnd 19 = .ok (.aload_n 0, 1) := by decide +kernel
theorem dX7_readLineEnd_20 : decode cX7_readLineEnd 20 = .ok (.dup, 1) := by decide +kernel
theorem dX7_readLineEnd_21 : decode cX7_readLineEnd 21 = .ok (.getfield 28, 3) := by decide +kernel
theorem dX7_readLineEnd_24 : decode cX7_readLineEnd 24 = .ok (.iconst 1, 1) := by decide +kernel
theorem dX7_readLineEnd_25 : decode cX7_readLineEnd 25 = .ok (.iadd, 1) := by decide +kernel
theorem dX7_readLineEnd_26 : decode cX7_readLineEnd 26 = .ok (.putfield 28, 3) := by decide +kernel
theorem dX7_readLineEnd_29 : decode cX7_readLineEnd 29 = .ok (.return_, 1) := by decide +kernel
theorem dX7_readChord_0 : decode cX7_readChord 0 = .ok (.aload_n 1, 1) := by decide +kernel
theorem dX7_readChord_1 : decode cX7_readChord 1 = .ok (.getfield 66, 3) := by decide +kernel
theorem dX7_readChord_4 : decode cX7_readChord 4 = .ok (.bipush 60, 2) := by decide +kernel
theorem dX7_readChord_6 : decode cX7_readChord 6 = .ok (.if_icmp .lt 9, 3) := by decide +kernel
theorem dX7_readChord_9 : decode cX7_readChord 9 = .ok (.aload_n 0, 1) := by decide +kernel
theorem dX7_readChord_10 : decode cX7_readChord 10 = .ok (.iconst 2, 1) := by decide +kernel
theorem dX7_readChord_11 : decode cX7_readChord 11 = .ok (.invokevirtual 53, 3) := by decide +kernel
theorem dX7_readChord_14 : decode cX7_readChord 14 = .ok (.return_, 1) := by decide +kernel
theorem dX7_readChord_15 : decode cX7_readChord 15 = .ok (.aload_n 0, 1) := by decide +kernel
theorem dX7_readChord_16 : decode cX7_readChord 16 = .ok (.dup, 1) := by decide +kernel
theorem dX7_readChord_17 : decode cX7_readChord 17 = .ok (.getfield 28, 3) := by decide +kernel
theorem dX7_readChord_20 : decode cX7_readChord 20 = .ok (.iconst 1, 1) := by decide +kernel
theorem dX7_readChord_21 : decode cX7_readChord 21 = .ok (.iadd, 1) := by decide +kernel
theorem dX7_readChord_22 : decode cX7_readChord 22 = .ok (.putfield 28, 3) := by decide +kernel
theorem dX7_readChord_25 : decode cX7_readChord 25 = .ok (.aload_n 0, 1) := by decide +kernel
theorem dX7_readChord_26 : decode cX7_readChord 26 = .ok (.invokevirtual 69, 3) := by decide +kernel
theorem dX7_readChord_29 : decode cX7_readChord 29 = .ok (.istore_n 2, 1) := by decide +kernel
theorem dX7_readChord_30 : decode cX7_readChord 30 = .ok (.iload_n 2, 1) := by decide +kernel
theorem dX7_readChord_31 : decode cX7_readChord 31 = .ok (.bipush (-100), 2) := by decide +kernel
theorem dX7_readChord_33 : decode cX7_readChord 33 = .ok (.if_icmp .ne 9, 3) := by decide +kernel
theorem dX7_readChord_36 : decode cX7_readChord 36 = .ok (.aload_n 0, 1) := by decide +kernel
theorem dX7_readChord_37 : decode cX7_readChord 37 = .ok (.iconst 1, 1) := by decide +kernel
theorem dX7_readChord_38 : decode cX7_readChord 38 = .ok (.invokevirtual 53, 3) := by decide +kernel
theorem dX7_readChord_41 : decode cX7_readChord 41 = .ok (.return_, 1) := by decide +kernel
theorem dX7_readChord_42 : decode cX7_readChord 42 = .ok (.aload_n 0, 1) := by decide +kernel
theorem dX7_readChord_43 : decode cX7_readChord 43 = .ok (.invokevirtual 75, 3) := by decide +kernel
theorem dX7_readChord_46 : decode cX7_readChord 46 = .ok (.istore_n 3, 1) := by decide +kernel
theorem dX7_readChord_47 : decode cX7_readChord 47 = .ok (.iload_n 2, 1) := by decide +kernel
theorem dX7_readChord_48 : decode cX7_readChord 48 = .ok (.istore 4, 2) := by decide +kernel
theorem dX7_readChord_50 : decode cX7_readChord 50 = .ok (.aload_n 0, 1) := by decide +kernel
theorem dX7_readChord_51 : decode cX7_readChord 51 = .ok (.aload_n 0, 1) := by decide +kernel
theorem dX7_readChord_52 : decode cX7_readChord 52 = .ok (.getfield 28, 3) := by decide +kernel
theorem dX7_readChord_55 : decode cX7_readChord 55 = .ok (.invokevirtual 43, 3) := by decide +kernel
theorem dX7_readChord_58 : decode cX7_readChord 58 = .ok (.bipush 47, 2) := by decide +kernel
theorem dX7_readChord_60 : decode cX7_readChord 60 = .ok (.if_icmp .ne 19, 3) := by decide +kernel
theorem dX7_readChord_63 : decode cX7_readChord 63 = .ok (.aload_n 0, 1) := by decide +kernel
theorem dX7_readChord_64 : decode cX7_readChord 64 = .ok (.dup, 1) := by decide +kernel
theorem dX7_readChord_65 : decode cX7_readChord 65 = .ok (.getfield 28, 3) := by decide +kernel
theorem dX7_readChord_68 : decode cX7_readChord 68 = .ok (.iconst 1, 1) := by decide +kernel
theorem dX7_readChord_69 : decode cX7_readChord 69 = .ok (.iadd, 1) := by decide +kernel
theorem dX7_readChord_70 : decode cX7_readChord 70 = .ok (.putfield 28, 3) := by decide +kernel
theorem dX7_readChord_73 : decode cX7_readChord 73 = .ok (.aload_n 0, 1) := by decide +kernel
theorem dX7_readChord_74 : decode cX7_readChord 74 = .ok (.invokevirtual 69, 3) := by decide +kernel
theorem dX7_readChord_77 : decode cX7_readChord 77 = .ok (.istore 4, 2) := by decide +kernel
theorem dX7_readChord_79 : decode cX7_readChord 79 = .ok (.iload 4, 2) := by decide +kernel
theorem dX7_readChord_81 : decode cX7_readChord 81 = .ok (.bipush (-100), 2) := by decide +kernel
theorem dX7_readChord_83 : decode cX7_readChord 83 = .ok (.if_icmp .eq 16, 3) := by decide +kernel
theorem dX7_readChord_86 : decode cX7_readChord 86 = .ok (.aload_n 0, 1) := by decide +kernel
theorem dX7_readChord_87 : decode cX7_readChord 87 = .ok (.aload_n 0, 1) := by decide +kernel
theorem dX7_readChord_88 : decode cX7_readChord 88 = .ok (.getfield 28, 3) := by decide +kernel
theorem dX7_readChord_91 : decode cX7_readChord 91 = .ok (.invokevirtual 43, 3) := by decide +kernel
theorem dX7_readChord_94 : decode cX7_readChord 94 = .ok (.bipush 93, 2) := by decide +kernel
theorem dX7_readChord_96 : decode cX7_readChord 96 = .ok (.if_icmp .eq 9, 3) := by decide +kernel
theorem dX7_readChord_99 : decode cX7_readChord 99 = .ok (.aload_n 0, 1) := by decide +kernel
theorem dX7_readChord_100 : decode cX7_readChord 100 = .ok (.iconst 1, 1) := by decide +kernel
theorem dX7_readChord_101 : decode cX7_readChord 101 = .ok (.invokevirtual 53, 3) := by decide +kernel
theorem dX7_readChord_104 : decode cX7_readChord 104 = .ok (.return_, 1) := by decide +kernel
theorem dX7_readChord_105 : decode cX7_readChord 105 = .ok (.aload_n 0, 1) := by decide +kernel
theorem dX7_readChord_106 : decode cX7_readChord 106 = .ok (.dup, 1) := by decide +kernel
theorem dX7_readChord_107 : decode cX7_readChord 107 = .ok (.getfield 28, 3) := by decide +kernel
theorem dX7_readChord_110 : decode cX7_readChord 110 = .ok (.iconst 1, 1) := by decide +kernel
theorem dX7_readChord_111 : decode cX7_readChord 111 = .ok (.iadd, 1) := by decide +kernel
theorem dX7_readChord_112 : decode cX7_readChord 112 = .ok (.putfield 28, 3) := by decide +kernel
theorem dX7_readChord_115 : decode cX7_readChord 115 = .ok (.aload_n 1, 1) := by decide +kernel
theorem dX7_readChord_116 : decode cX7_readChord 116 = .ok (.iload_n 2, 1) := by decide +kernel
theorem dX7_readChord_117 : decode cX7_readChord 117 = .ok (.iload_n 3, 1) := by decide +kernel
theorem dX7_readChord_118 : decode cX7_readChord 118 = .ok (.iload 4, 2) := by decide +kernel
theorem dX7_readChord_120 : decode cX7_readChord 120 = .ok (.invokevirtual 78, 3) := by decide +kernel
theorem dX7_readChord_123 : decode cX7_readChord 123 = .ok (.return_, 1) := by decide +kernel
theorem dX7_readNote_0 : decode cX7_readNote 0 = .ok (.aload_n 0, 1) := by decide +kernel
theorem dX7_readNote_1 : decode cX7_readNote 1 = .ok (.aload_n 0, 1) := by decide +kernel
theorem dX7_readNote_2 : decode cX7_readNote 2 = .ok (.getfield 28, 3) := by decide +kernel
theorem dX7_readNote_5 : decode cX7_readNote 5 = .ok (.invokevirtual 43, 3) := by decide +kernel
theorem dX7_readNote_8 : decode cX7_readNote 8 = .ok (.invokestatic 82, 3) := by decide +kernel
theorem dX7_readNote_11 : decode cX7_readNote 11 = .ok (.istore_n 1, 1) := by decide +kernel
theorem dX7_readNote_12 : decode cX7_readNote 12 = .ok (.iload_n 1, 1) := by decide +kernel
theorem dX7_readNote_13 : decode cX7_readNote 13 = .ok (.bipush (-100), 2) := by decide +kernel
theorem dX7_readNote_15 : decode cX7_readNote 15 = .ok (.if_icmp .ne 6, 3) := by decide +kernel
theorem dX7_readNote_18 : decode cX7_readNote 18 = .ok (.bipush (-100), 2) := by decide +kernel
theorem dX7_readNote_20 : decode cX7_readNote 20 = .ok (.ireturn, 1) := by decide +kernel
theorem dX7_readNote_21 : decode cX7_readNote 21 = .ok (.aload_n 0, 1) := by decide +kernel
theorem dX7_readNote_22 : decode cX7_readNote 22 = .ok (.dup, 1) := by decide +kernel
theorem dX7_readNote_23 : decode cX7_readNote 23 = .ok (.getfield 28, 3) := by decide +kernel
theorem dX7_readNote_26 : decode cX7_readNote 26 = .ok (.iconst 1, 1) := by decide +kernel
theorem dX7_readNote_27 : decode cX7_readNote 27 = .ok (.iadd, 1) := by decide +kernel
theorem dX7_readNote_28 : decode cX7_readNote 28 = .ok (.putfield 28, 3) := by decide +kernel
theorem dX7_readNote_31 : decode cX7_readNote 31 = .ok (.aload_n 0, 1) := by decide +kernel
theorem dX7_readNote_32 : decode cX7_readNote 32 = .ok (.aload_n 0, 1) := by decide +kernel
theorem dX7_readNote_33 : decode cX7_readNote 33 = .ok (.getfield 28, 3) := by decide +kernel
theorem dX7_readNote_36 : decode cX7_readNote 36 = .ok (.invokevirtual 43, 3) := by decide +kernel
theorem dX7_readNote_39 : decode cX7_readNote 39 = .ok (.istore_n 2, 1) := by decide +kernel
theorem dX7_readNote_40 : decode cX7_readNote 40 = .ok (.iload_n 2, 1) := by decide +kernel
theorem dX7_readNote_41 : decode cX7_readNote 41 = .ok (.bipush 35, 2) := by decide +kernel
theorem dX7_readNote_43 : decode cX7_readNote 43 = .ok (.if_icmp .eq 11, 3) := by decide +kernel
theorem dX7_readNote_46 : decode cX7_readNote 46 = .ok (.iload_n 2, 1) := by decide +kernel
theorem dX7_readNote_47 : decode cX7_readNote 47 = .ok (.bipush 98, 2) := by decide +kernel
theorem dX7_readNote_49 : decode cX7_readNote 49 = .ok (.if_icmp .eq 5, 3) := by decide +kernel
theorem dX7_readNote_52 : decode cX7_readNote 52 = .ok (.iload_n 1, 1) := by decide +kernel
theorem dX7_readNote_53 : decode cX7_readNote 53 = .ok (.ireturn, 1) := by decide +kernel
theorem dX7_readNote_54 : decode cX7_readNote 54 = .ok (.iload_n 2, 1) := by decide +kernel
theorem dX7_readNote_55 : decode cX7_readNote 55 = .ok (.bipush 35, 2) := by decide +kernel
theorem dX7_readNote_57 : decode cX7_readNote 57 = .ok (.if_icmp .ne 8, 3) := by decide +kernel
theorem dX7_readNote_60 : decode cX7_readNote 60 = .ok (.bipush 7, 2) := by decide +kernel
theorem dX7_readNote_62 : decode cX7_readNote 62 = .ok (.goto 5, 3) := by decide +kernel
theorem dX7_readNote_65 : decode cX7_readNote 65 = .ok (.bipush (-7), 2) := by decide +kernel
theorem dX7_readNote_67 : decode cX7_readNote 67 = .ok (.istore_n 3, 1) := by decide +kernel
theorem dX7_readNote_68 : decode cX7_readNote 68 = .ok (.aload_n 0, 1) := by decide +kernel
theorem dX7_readNote_69 : decode cX7_readNote 69 = .ok (.dup, 1) := by decide +kernel
theorem dX7_readNote_70 : decode cX7_readNote 70 = .ok (.getfield 28, 3) := by decide +kernel
theorem dX7_readNote_73 : decode cX7_readNote 73 = .ok (.iconst 1, 1) := by decide +kernel
theorem dX7_readNote_74 : decode cX7_readNote 74 = .ok (.iadd, 1) := by decide +kernel
theorem dX7_readNote_75 : decode cX7_readNote 75 = .ok (.putfield 28, 3) := by decide +kernel
theorem dX7_readNote_78 : decode cX7_readNote 78 = .ok (.aload_n 0, 1) := by decide +kernel
theorem dX7_readNote_79 : decode cX7_readNote 79 = .ok (.aload_n 0, 1) := by decide +kernel
theorem dX7_readNote_80 : decode cX7_readNote 80 = .ok (.getfield 28, 3) := by decide +kernel
theorem dX7_readNote_83 : decode cX7_readNote 83 = .ok (.invokevirtual 43, 3) := by decide +kernel
theorem dX7_readNote_86 : decode cX7_readNote 86 = .ok (.iload_n 2, 1) := by decide +kernel
theorem dX7_readNote_87 : decode cX7_readNote 87 = .ok (.if_icmp .eq 7, 3) := by decide +kernel
theorem dX7_readNote_90 : decode cX7_readNote 90 = .ok (.iload_n 1, 1) := by decide +kernel
theorem dX7_readNote_91 : decode cX7_readNote 91 = .ok (.iload_n 3, 1) := by decide +kernel
theorem dX7_readNote_92 : decode cX7_readNote 92 = .ok (.iadd, 1) := by decide +kernel
theorem dX7_readNote_93 : decode cX7_readNote 93 = .ok (.ireturn, 1) := by decide +kernel
theorem dX7_readNote_94 : decode cX7_readNote 94 = .ok (.aload_n 0, 1) := by decide +kernel
theorem dX7_readNote_95 : decode cX7_readNote 95 = .ok (.dup, 1) := by decide +kernel
theorem dX7_readNote_96 : decode cX7_readNote 96 = .ok (.getfield 28, 3) := by decide +kernel
theorem dX7_readNote_99 : decode cX7_readNote 99 = .ok (.iconst 1, 1) := by decide +kernel
theorem dX7_readNote_100 : decode cX7_readNote 100 = .ok (.iadd, 1) := by decide +kernel
theorem dX7_readNote_101 : decode cX7_readNote 101 = .ok (.putfield 28, 3) := by decide +kernel
theorem dX7_readNote_104 : decode cX7_readNote 104 = .ok (.iload_n 1, 1) := by decide +kernel
theorem dX7_readNote_105 : decode cX7_readNote 105 = .ok (.iconst 2, 1) := by decide +kernel
theorem dX7_readNote_106 : decode cX7_readNote 106 = .ok (.iload_n 3, 1) := by decide +kernel
theorem dX7_readNote_107 : decode cX7_readNote 107 = .ok (.imul, 1) := by decide +kernel
theorem dX7_readNote_108 : decode cX7_readNote 108 = .ok (.iadd, 1) := by decide +kernel
theorem dX7_readNote_109 : decode cX7_readNote 109 = .ok (.ireturn, 1) := by decide +kernel
theorem dX7_readKind_0 : decode cX7_readKind 0 = .ok (.iconst 0, 1) := by decide +kernel
theorem dX7_readKind_1 : decode cX7_readKind 1 = .ok (.istore_n 1, 1) := by decide +kernel
theorem dX7_readKind_2 : decode cX7_readKind 2 = .ok (.iconst 0, 1) := by decide +kernel
theorem dX7_readKind_3 : decode cX7_readKind 3 = .ok (.istore_n 2, 1) := by decide +kernel
theorem dX7_readKind_4 : decode cX7_readKind 4 = .ok (.iconst 0, 1) := by decide +kernel
theorem dX7_readKind_5 : decode cX7_readKind 5 = .ok (.istore_n 3, 1) := by decide +kernel
theorem dX7_readKind_6 : decode cX7_readKind 6 = .ok (.iload_n 3, 1) := by decide +kernel
theorem dX7_readKind_7 : decode cX7_readKind 7 = .ok (.bipush 14, 2) := by decide +kernel
theorem dX7_readKind_9 : decode cX7_readKind 9 = .ok (.if_icmp .ge 41, 3) := by decide +kernel
theorem dX7_readKind_12 : decode cX7_readKind 12 = .ok (.iload_n 3, 1) := by decide +kernel
theorem dX7_readKind_13 : decode cX7_readKind 13 = .ok (.invokestatic 87, 3) := by decide +kernel
theorem dX7_readKind_16 : decode cX7_readKind 16 = .ok (.astore 4, 2) := by decide +kernel
theorem dX7_readKind_18 : decode cX7_readKind 18 = .ok (.aload 4, 2) := by decide +kernel
theorem dX7_readKind_20 : decode cX7_readKind 20 = .ok (.invokevirtual 91, 3) := by decide +kernel
theorem dX7_readKind_23 : decode cX7_readKind 23 = .ok (.iload_n 2, 1) := by decide +kernel
theorem dX7_readKind_24 : decode cX7_readKind 24 = .ok (.if_icmp .le 20, 3) := by decide +kernel
theorem dX7_readKind_27 : decode cX7_readKind 27 = .ok (.aload_n 0, 1) := by decide +kernel
theorem dX7_readKind_28 : decode cX7_readKind 28 = .ok (.aload 4, 2) := by decide +kernel
theorem dX7_readKind_30 : decode cX7_readKind 30 = .ok (.invokevirtual 95, 3) := by decide +kernel
theorem dX7_readKind_33 : decode cX7_readKind 33 = .ok (.ifCond .eq 11, 3) := by decide +kernel
theorem dX7_readKind_36 : decode cX7_readKind 36 = .ok (.iload_n 3, 1) := by decide +kernel
theorem dX7_readKind_37 : decode cX7_readKind 37 = .ok (.istore_n 1, 1) := by decide +kernel
theorem dX7_readKind_38 : decode cX7_readKind 38 = .ok (.aload 4, 2) := by decide +kernel
theorem dX7_readKind_40 : decode cX7_readKind 40 = .ok (.invokevirtual 91, 3) := by decide +kernel
theorem dX7_readKind_43 : decode cX7_readKind 43 = .ok (.istore_n 2, 1) := by decide +kernel
theorem dX7_readKind_44 : decode cX7_readKind 44 = .ok (.iinc 3 1, 3) := by decide +kernel
theorem dX7_readKind_47 : decode cX7_readKind 47 = .ok (.goto (-41), 3) := by decide +kernel
theorem dX7_readKind_50 : decode cX7_readKind 50 = .ok (.aload_n 0, 1) := by decide +kernel
theorem dX7_readKind_51 : decode cX7_readKind 51 = .ok (.dup, 1) := by decide +kernel
theorem dX7_readKind_52 : decode cX7_readKind 52 = .ok (.getfield 28, 3) := by decide +kernel
theorem dX7_readKind_55 : decode cX7_readKind 55 = .ok (.iload_n 2, 1) := by decide +kernel
theorem dX7_readKind_56 : decode cX7_readKind 56 = .ok (.iadd, 1) := by decide +kernel
theorem dX7_readKind_57 : decode cX7_readKind 57 = .ok (.putfield 28, 3) := by decide +kernel
theorem dX7_readKind_60 : decode cX7_readKind 60 = .ok (.iload_n 1, 1) := by decide +kernel
theorem dX7_readKind_61 : decode cX7_readKind 61 = .ok (.ireturn, 1) := by decide +kernel
theorem dX7_standsHere_0 : decode cX7_standsHere 0 = .ok (.iconst 0, 1) := by decide +kernel
theorem dX7_standsHere_1 : decode cX7_standsHere 1 = .ok (.istore_n 2, 1) := by decide +kernel
theorem dX7_standsHere_2 : decode cX7_standsHere 2 = .ok (.iload_n 2, 1) := by decide +kernel
theorem dX7_standsHere_3 : decode cX7_standsHere 3 = .ok (.aload_n 1, 1) := by decide +kernel
theorem dX7_standsHere_4 : decode cX7_standsHere 4 = .ok (.invokevirtual 91, 3) := by decide +kernel
theorem dX7_standsHere_7 : decode cX7_standsHere 7 = .ok (.if_icmp .ge 29, 3) := by decide +kernel
theorem dX7_standsHere_10 : decode cX7_standsHere 10 = .ok (.aload_n 0, 1) := by decide +kernel
theorem dX7_standsHere_11 : decode cX7_standsHere 11 = .ok (.aload_n 0, 1) := by decide +kernel
theorem dX7_standsHere_12 : decode cX7_standsHere 12 = .ok (.getfield 28, 3) := by decide +kernel
theorem dX7_standsHere_15 : decode cX7_standsHere 15 = .ok (.iload_n 2, 1) := by decide +kernel
theorem dX7_standsHere_16 : decode cX7_standsHere 16 = .ok (.iadd, 1) := by decide +kernel
theorem dX7_standsHere_17 : decode cX7_standsHere 17 = .ok (.invokevirtual 43, 3) := by decide +kernel
theorem dX7_standsHere_20 : decode cX7_standsHere 20 = .ok (.aload_n 1, 1) := by decide +kernel
theorem dX7_standsHere_21 : decode cX7_standsHere 21 = .ok (.iload_n 2, 1) := by decide +kernel
theorem dX7_standsHere_22 : decode cX7_standsHere 22 = .ok (.invokevirtual 99, 3) := by decide +kernel
theorem dX7_standsHere_25 : decode cX7_standsHere 25 = .ok (.if_icmp .eq 5, 3) := by decide +kernel
theorem dX7_standsHere_28 : decode cX7_standsHere 28 = .ok (.iconst 0, 1) := by decide +kernel
theorem dX7_standsHere_29 : decode cX7_standsHere 29 = .ok (.ireturn, 1) := by decide +kernel
theorem dX7_standsHere_30 : decode cX7_standsHere 30 = .ok (.iinc 2 1, 3) := by decide +kernel
theorem dX7_standsHere_33 : decode cX7_standsHere 33 = .ok (.goto (-31), 3) := by decide +kernel
theorem dX7_standsHere_36 : decode cX7_standsHere 36 = .ok (.iconst 1, 1) := by decide +kernel
theorem dX7_standsHere_37 : decode cX7_standsHere 37 = .ok (.ireturn, 1) := by decide +kernel
theorem dX7_signAt_0 : decode cX7_signAt 0 = .ok (.iload_n 1, 1) := by decide +kernel
theorem dX7_signAt_1 : decode cX7_signAt 1 = .ok (.ifCond .lt 20, 3) := by decide +kernel
theorem dX7_signAt_4 : decode cX7_signAt 4 = .ok (.iload_n 1, 1) := by decide +kernel
theorem dX7_signAt_5 : decode cX7_signAt 5 = .ok (.aload_n 0, 1) := by decide +kernel
theorem dX7_signAt_6 : decode cX7_signAt 6 = .ok (.getfield 25, 3) := by decide +kernel
theorem dX7_signAt_9 : decode cX7_signAt 9 = .ok (.if_icmp .ge 12, 3) := by decide +kernel
theorem dX7_signAt_12 : decode cX7_signAt 12 = .ok (.aload_n 0, 1) := by decide +kernel
theorem dX7_signAt_13 : decode cX7_signAt 13 = .ok (.getfield 9, 3) := by decide +kernel
theorem dX7_signAt_16 : decode cX7_signAt 16 = .ok (.iload_n 1, 1) := by decide +kernel
theorem dX7_signAt_17 : decode cX7_signAt 17 = .ok (.iaload, 1) := by decide +kernel
theorem dX7_signAt_18 : decode cX7_signAt 18 = .ok (.goto 4, 3) := by decide +kernel
theorem dX7_signAt_21 : decode cX7_signAt 21 = .ok (.iconst (-1), 1) := by decide +kernel
theorem dX7_signAt_22 : decode cX7_signAt 22 = .ok (.ireturn, 1) := by decide +kernel
theorem dX7_refuse_0 : decode cX7_refuse 0 = .ok (.aload_n 0, 1) := by decide +kernel
theorem dX7_refuse_1 : decode cX7_refuse 1 = .ok (.iload_n 1, 1) := by decide +kernel
theorem dX7_refuse_2 : decode cX7_refuse 2 = .ok (.putfield 31, 3) := by decide +kernel
theorem dX7_refuse_5 : decode cX7_refuse 5 = .ok (.aload_n 0, 1) := by decide +kernel
theorem dX7_refuse_6 : decode cX7_refuse 6 = .ok (.aload_n 0, 1) := by decide +kernel
theorem dX7_refuse_7 : decode cX7_refuse 7 = .ok (.getfield 28, 3) := by decide +kernel
theorem dX7_refuse_10 : decode cX7_refuse 10 = .ok (.putfield 15, 3) := by decide +kernel
theorem dX7_refuse_13 : decode cX7_refuse 13 = .ok (.return_, 1) := by decide +kernel
theorem dX8_init_0 : decode cX8_init 0 = .ok (.aload_n 0, 1) := by decide +kernel
theorem dX8_init_1 : decode cX8_init 1 = .ok (.invokespecial 3, 3) := by decide +kernel
theorem dX8_init_4 : decode cX8_init 4 = .ok (.aload_n 0, 1) := by decide +kernel
theorem dX8_init_5 : decode cX8_init 5 = .ok (.sipush 1200, 3) := by decide +kernel
theorem dX8_init_8 : decode cX8_init 8 = .ok (.newarray .int, 2) := by decide +kernel
theorem dX8_init_10 : decode cX8_init 10 = .ok (.putfield 9, 3) := by decide +kernel
theorem dX8_init_13 : decode cX8_init 13 = .ok (.aload_n 0, 1) := by decide +kernel
theorem dX8_init_14 : decode cX8_init 14 = .ok (.bipush 60, 2) := by decide +kernel
theorem dX8_init_16 : decode cX8_init 16 = .ok (.newarray .int, 2) := by decide +kernel
theorem dX8_init_18 : decode cX8_init 18 = .ok (.putfield 15, 3) := by decide +kernel
theorem dX8_init_21 : decode cX8_init 21 = .ok (.aload_n 0, 1) := by decide +kernel
theorem dX8_init_22 : decode cX8_init 22 = .ok (.bipush 60, 2) := by decide +kernel
theorem dX8_init_24 : decode cX8_init 24 = .ok (.newarray .int, 2) := by decide +kernel
theorem dX8_init_26 : decode cX8_init 26 = .ok (.putfield 18, 3) := by decide +kernel
theorem dX8_init_29 : decode cX8_init 29 = .ok (.aload_n 0, 1) := by decide +kernel
theorem dX8_init_30 : decode cX8_init 30 = .ok (.bipush 60, 2) := by decide +kernel
theorem dX8_init_32 : decode cX8_init 32 = .ok (.newarray .int, 2) := by decide +kernel
theorem dX8_init_34 : decode cX8_init 34 = .ok (.putfield 21, 3) := by decide +kernel
theorem dX8_init_37 : decode cX8_init 37 = .ok (.aload_n 0, 1) := by decide +kernel
theorem dX8_init_38 : decode cX8_init 38 = .ok (.bipush 60, 2) := by decide +kernel
theorem dX8_init_40 : decode cX8_init 40 = .ok (.newarray .int, 2) := by decide +kernel
theorem dX8_init_42 : decode cX8_init 42 = .ok (.putfield 24, 3) := by decide +kernel
theorem dX8_init_45 : decode cX8_init 45 = .ok (.return_, 1) := by decide +kernel
theorem dX8_startAnew_0 : decode cX8_startAnew 0 = .ok (.aload_n 0, 1) := by decide +kernel
theorem dX8_startAnew_1 : decode cX8_startAnew 1 = .ok (.iconst 0, 1) := by decide +kernel
theorem dX8_startAnew_2 : decode cX8_startAnew 2 = .ok (.putfield 27, 3) := by decide +kernel
theorem dX8_startAnew_5 : decode cX8_startAnew 5 = .ok (.aload_n 0, 1) := by decide +kernel
theorem dX8_startAnew_6 : decode cX8_startAnew 6 = .ok (.iconst 1, 1) := by decide +kernel
theorem dX8_startAnew_7 : decode cX8_startAnew 7 = .ok (.putfield 31, 3) := by decide +kernel
theorem dX8_startAnew_10 : decode cX8_startAnew 10 = .ok (.aload_n 0, 1) := by decide +kernel
theorem dX8_startAnew_11 : decode cX8_startAnew 11 = .ok (.iconst 0, 1) := by decide +kernel
theorem dX8_startAnew_12 : decode cX8_startAnew 12 = .ok (.putfield 34, 3) := by decide +kernel
theorem dX8_startAnew_15 : decode cX8_startAnew 15 = .ok (.return_, 1) := by decide +kernel
theorem dX8_addItem_0 : decode cX8_addItem 0 = .ok (.aload_n 0, 1) := by decide +kernel
theorem dX8_addItem_1 : decode cX8_addItem 1 = .ok (.getfield 27, 3) := by decide +kernel
theorem dX8_addItem_4 : decode cX8_addItem 4 = .ok (.sipush 1200, 3) := by decide +kernel
theorem dX8_addItem_7 : decode cX8_addItem 7 = .ok (.if_icmp .ge 23, 3) := by decide +kernel
theorem dX8_addItem_10 : decode cX8_addItem 10 = .ok (.aload_n 0, 1) := by decide +kernel
theorem dX8_addItem_11 : decode cX8_addItem 11 = .ok (.getfield 9, 3) := by decide +kernel
theorem dX8_addItem_14 : decode cX8_addItem 14 = .ok (.aload_n 0, 1) := by decide +kernel
theorem dX8_addItem_15 : decode cX8_addItem 15 = .ok (.getfield 27, 3) := by decide +kernel
theorem dX8_addItem_18 : decode cX8_addItem 18 = .ok (.iload_n 1, 1) := by decide +kernel
theorem dX8_addItem_19 : decode cX8_addItem 19 = .ok (.iastore, 1) := by decide +kernel
theorem dX8_addItem_20 : decode cX8_addItem 20 = .ok (.aload_n 0, 1) := by decide +kernel
theorem dX8_addItem_21 : decode cX8_addItem 21 = .ok (.dup, 1) := by decide +kernel
theorem dX8_addItem_22 : decode cX8_addItem 22 = .ok (.getfield 27, 3) := by decide +kernel
theorem dX8_addItem_25 : decode cX8_addItem 25 = .ok (.iconst 1, 1) := by decide +kernel
theorem dX8_addItem_26 : decode cX8_addItem 26 = .ok (.iadd, 1) := by decide +kernel
theorem dX8_addItem_27 : decode cX8_addItem 27 = .ok (.putfield 27, 3) := by decide +kernel
theorem dX8_addItem_30 : decode cX8_addItem 30 = .ok (.return_, 1) := by decide +kernel
theorem dX8_addLineEnd_0 : decode cX8_addLineEnd 0 = .ok (.aload_n 0, 1) := by decide +kernel
theorem dX8_addLineEnd_1 : decode cX8_addLineEnd 1 = .ok (.bipush 10, 2) := by decide +kernel
theorem dX8_addLineEnd_3 : decode cX8_addLineEnd 3 = .ok (.invokevirtual 37, 3) := by decide +kernel
theorem dX8_addLineEnd_6 : decode cX8_addLineEnd 6 = .ok (.aload_n 0, 1) := by decide +kernel
theorem dX8_addLineEnd_7 : decode cX8_addLineEnd 7 = .ok (.dup, 1) := by decide +kernel
theorem dX8_addLineEnd_8 : decode cX8_addLineEnd 8 = .ok (.getfield 31, 3) := by decide +kernel
theorem dX8_addLineEnd_11 : decode cX8_addLineEnd 11 = .ok (.iconst 1, 1) := by decide +kernel
theorem dX8_addLineEnd_12 : decode cX8_addLineEnd 12 = .ok (.iadd, 1) := by decide +kernel
theorem dX8_addLineEnd_13 : decode cX8_addLineEnd 13 = .ok (.putfield 31, 3) := by decide +kernel
theorem dX8_addLineEnd_16 : decode cX8_addLineEnd 16 = .ok (.return_, 1) := by decide +kernel
theorem dX8_addChord_0 : decode cX8_addChord 0 = .ok (.aload_n 0, 1) := by decide +kernel
theorem dX8_addChord_1 : decode cX8_addChord 1 = .ok (.getfield 34, 3) := by decide +kernel
theorem dX8_addChord_4 : decode cX8_addChord 4 = .ok (.bipush 60, 2) := by decide +kernel
theorem dX8_addChord_6 : decode cX8_addChord 6 = .ok (.if_icmp .ge 70, 3) := by decide +kernel
theorem dX8_addChord_9 : decode cX8_addChord 9 = .ok (.aload_n 0, 1) := by decide +kernel
theorem dX8_addChord_10 : decode cX8_addChord 10 = .ok (.getfield 15, 3) := by decide +kernel
theorem dX8_addChord_13 : decode cX8_addChord 13 = .ok (.aload_n 0, 1) := by decide +kernel
theorem dX8_addChord_14 : decode cX8_addChord 14 = .ok (.getfield 34, 3) := by decide +kernel
theorem dX8_addChord_17 : decode cX8_addChord 17 = .ok (.iload_n 1, 1) := by decide +kernel
theorem dX8_addChord_18 : decode cX8_addChord 18 = .ok (.iastore, 1) := by decide +kernel
theorem dX8_addChord_19 : decode cX8_addChord 19 = .ok (.aload_n 0, 1) := by decide +kernel
theorem dX8_addChord_20 : decode cX8_addChord 20 = .ok (.getfield 18, 3) := by decide +kernel
theorem dX8_addChord_23 : decode cX8_addChord 23 = .ok (.aload_n 0, 1) := by decide +kernel
theorem dX8_addChord_24 : decode cX8_addChord 24 = .ok (.getfield 34, 3) := by decide +kernel
theorem dX8_addChord_27 : decode cX8_addChord 27 = .ok (.iload_n 2, 1) := by decide +kernel
theorem dX8_addChord_28 : decode cX8_addChord 28 = .ok (.iastore, 1) := by decide +kernel
theorem dX8_addChord_29 : decode cX8_addChord 29 = .ok (.aload_n 0, 1) := by decide +kernel
theorem dX8_addChord_30 : decode cX8_addChord 30 = .ok (.getfield 21, 3) := by decide +kernel
theorem dX8_addChord_33 : decode cX8_addChord 33 = .ok (.aload_n 0, 1) := by decide +kernel
theorem dX8_addChord_34 : decode cX8_addChord 34 = .ok (.getfield 34, 3) := by decide +kernel
theorem dX8_addChord_37 : decode cX8_addChord 37 = .ok (.iload_n 3, 1) := by decide +kernel
theorem dX8_addChord_38 : decode cX8_addChord 38 = .ok (.iastore, 1) := by decide +kernel
theorem dX8_addChord_39 : decode cX8_addChord 39 = .ok (.aload_n 0, 1) := by decide +kernel
theorem dX8_addChord_40 : decode cX8_addChord 40 = .ok (.getfield 24, 3) := by decide +kernel
theorem dX8_addChord_43 : decode cX8_addChord 43 = .ok (.aload_n 0, 1) := by decide +kernel
theorem dX8_addChord_44 : decode cX8_addChord 44 = .ok (.getfield 34, 3) := by decide +kernel
theorem dX8_addChord_47 : decode cX8_addChord 47 = .ok (.aload_n 0, 1) := by decide +kernel
theorem dX8_addChord_48 : decode cX8_addChord 48 = .ok (.getfield 31, 3) := by decide +kernel
theorem dX8_addChord_51 : decode cX8_addChord 51 = .ok (.iconst 1, 1) := by decide +kernel
theorem dX8_addChord_52 : decode cX8_addChord 52 = .ok (.isub, 1) := by decide +kernel
theorem dX8_addChord_53 : decode cX8_addChord 53 = .ok (.iastore, 1) := by decide +kernel
theorem dX8_addChord_54 : decode cX8_addChord 54 = .ok (.aload_n 0, 1) := by decide +kernel
theorem dX8_addChord_55 : decode cX8_addChord 55 = .ok (.sipush 256, 3) := by decide +kernel
theorem dX8_addChord_58 : decode cX8_addChord 58 = .ok (.aload_n 0, 1) := by decide +kernel
theorem dX8_addChord_59 : decode cX8_addChord 59 = .ok (.getfield 34, 3) := by decide +kernel
theorem dX8_addChord_62 : decode cX8_addChord 62 = .ok (.iadd, 1) := by decide +kernel
theorem dX8_addChord_63 : decode cX8_addChord 63 = .ok (.invokevirtual 37, 3) := by decide +kernel
theorem dX8_addChord_66 : decode cX8_addChord 66 = .ok (.aload_n 0, 1) := by decide +kernel
theorem dX8_addChord_67 : decode cX8_addChord 67 = .ok (.dup, 1) := by decide +kernel
theorem dX8_addChord_68 : decode cX8_addChord 68 = .ok (.getfield 34, 3) := by decide +kernel
theorem dX8_addChord_71 : decode cX8_addChord 71 = .ok (.iconst 1, 1) := by decide +kernel
theorem dX8_addChord_72 : decode cX8_addChord 72 = .ok (.iadd, 1) := by decide +kernel
theorem dX8_addChord_73 : decode cX8_addChord 73 = .ok (.putfield 34, 3) := by decide +kernel
theorem dX8_addChord_76 : decode cX8_addChord 76 = .ok (.return_, 1) := by decide +kernel
theorem dX8_hasChord_0 : decode cX8_hasChord 0 = .ok (.iload_n 1, 1) := by decide +kernel
theorem dX8_hasChord_1 : decode cX8_hasChord 1 = .ok (.ifCond .lt 15, 3) := by decide +kernel
theorem dX8_hasChord_4 : decode cX8_hasChord 4 = .ok (.iload_n 1, 1) := by decide +kernel
theorem dX8_hasChord_5 : decode cX8_hasChord 5 = .ok (.aload_n 0, 1) := by decide +kernel
theorem dX8_hasChord_6 : decode cX8_hasChord 6 = .ok (.getfield 34, 3) := by decide +kernel
theorem dX8_hasChord_9 : decode cX8_hasChord 9 = .ok (.if_icmp .ge 7, 3) := by decide +kernel
theorem dX8_hasChord_12 : decode cX8_hasChord 12 = .ok (.iconst 1, 1) := by decide +kernel
theorem dX8_hasChord_13 : decode cX8_hasChord 13 = .ok (.goto 4, 3) := by decide +kernel
theorem dX8_hasChord_16 : decode cX8_hasChord 16 = .ok (.iconst 0, 1) := by decide +kernel
theorem dX8_hasChord_17 : decode cX8_hasChord 17 = .ok (.ireturn, 1) := by decide +kernel
theorem dX8_tonesOf_0 : decode cX8_tonesOf 0 = .ok (.aload_n 0, 1) := by decide +kernel
theorem dX8_tonesOf_1 : decode cX8_tonesOf 1 = .ok (.getfield 15, 3) := by decide +kernel
theorem dX8_tonesOf_4 : decode cX8_tonesOf 4 = .ok (.iload_n 1, 1) := by decide +kernel
theorem dX8_tonesOf_5 : decode cX8_tonesOf 5 = .ok (.iaload, 1) := by decide +kernel
theorem dX8_tonesOf_6 : decode cX8_tonesOf 6 = .ok (.invokestatic 41, 3) := by decide +kernel
theorem dX8_tonesOf_9 : decode cX8_tonesOf 9 = .ok (.aload_n 0, 1) := by decide +kernel
theorem dX8_tonesOf_10 : decode cX8_tonesOf 10 = .ok (.getfield 18, 3) := by decide +kernel
theorem dX8_tonesOf_13 : decode cX8_tonesOf 13 = .ok (.iload_n 1, 1) := by decide +kernel
theorem dX8_tonesOf_14 : decode cX8_tonesOf 14 = .ok (.iaload, 1) := by decide +kernel
theorem dX8_tonesOf_15 : decode cX8_tonesOf 15 = .ok (.invokestatic 47, 3) := by decide +kernel
theorem dX8_tonesOf_18 : decode cX8_tonesOf 18 = .ok (.istore_n 2, 1) := by decide +kernel
theorem dX8_tonesOf_19 : decode cX8_tonesOf 19 = .ok (.iload_n 2, 1) := by decide +kernel
theorem dX8_tonesOf_20 : decode cX8_tonesOf 20 = .ok (.iconst 1, 1) := by decide +kernel
theorem dX8_tonesOf_21 : decode cX8_tonesOf 21 = .ok (.aload_n 0, 1) := by decide +kernel
theorem dX8_tonesOf_22 : decode cX8_tonesOf 22 = .ok (.getfield 21, 3) := by decide +kernel
theorem dX8_tonesOf_25 : decode cX8_tonesOf 25 = .ok (.iload_n 1, 1) := by decide +kernel
theorem dX8_tonesOf_26 : decode cX8_tonesOf 26 = .ok (.iaload, 1) := by decide +kernel
theorem dX8_tonesOf_27 : decode cX8_tonesOf 27 = .ok (.invokestatic 41, 3) := by decide +kernel
theorem dX8_tonesOf_30 : decode cX8_tonesOf 30 = .ok (.ishl, 1) := by decide +kernel
theorem dX8_tonesOf_31 : decode cX8_tonesOf 31 = .ok (.ior, 1) := by decide +kernel
theorem dX8_tonesOf_32 : decode cX8_tonesOf 32 = .ok (.ireturn, 1) := by decide +kernel
theorem dX8_neededOf_0 : decode cX8_neededOf 0 = .ok (.iload_n 2, 1) := by decide +kernel
theorem dX8_neededOf_1 : decode cX8_neededOf 1 = .ok (.invokestatic 53, 3) := by decide +kernel
theorem dX8_neededOf_4 : decode cX8_neededOf 4 = .ok (.iconst 4, 1) := by decide +kernel
theorem dX8_neededOf_5 : decode cX8_neededOf 5 = .ok (.if_icmp .ge 5, 3) := by decide +kernel
theorem dX8_neededOf_8 : decode cX8_neededOf 8 = .ok (.iload_n 2, 1) := by decide +kernel
theorem dX8_neededOf_9 : decode cX8_neededOf 9 = .ok (.ireturn, 1) := by decide +kernel
theorem dX8_neededOf_10 : decode cX8_neededOf 10 = .ok (.aload_n 0, 1) := by decide +kernel
theorem dX8_neededOf_11 : decode cX8_neededOf 11 = .ok (.getfield 15, 3) := by decide +kernel
theorem dX8_neededOf_14 : decode cX8_neededOf 14 = .ok (.iload_n 1, 1) := by decide +kernel
theorem dX8_neededOf_15 : decode cX8_neededOf 15 = .ok (.iaload, 1) := by decide +kernel
theorem dX8_neededOf_16 : decode cX8_neededOf 16 = .ok (.invokestatic 41, 3) := by decide +kernel
theorem dX8_neededOf_19 : decode cX8_neededOf 19 = .ok (.bipush 7, 2) := by decide +kernel
theorem dX8_neededOf_21 : decode cX8_neededOf 21 = .ok (.iadd, 1) := by decide +kernel
theorem dX8_neededOf_22 : decode cX8_neededOf 22 = .ok (.bipush 12, 2) := by decide +kernel
theorem dX8_neededOf_24 : decode cX8_neededOf 24 = .ok (.irem, 1) := by decide +kernel
theorem dX8_neededOf_25 : decode cX8_neededOf 25 = .ok (.istore_n 3, 1) := by decide +kernel
theorem dX8_neededOf_26 : decode cX8_neededOf 26 = .ok (.iload_n 2, 1) := by decide +kernel
theorem dX8_neededOf_27 : decode cX8_neededOf 27 = .ok (.iconst 1, 1) := by decide +kernel
theorem dX8_neededOf_28 : decode cX8_neededOf 28 = .ok (.iload_n 3, 1) := by decide +kernel
theorem dX8_neededOf_29 : decode cX8_neededOf 29 = .ok (.ishl, 1) := by decide +kernel
theorem dX8_neededOf_30 : decode cX8_neededOf 30 = .ok (.iconst (-1), 1) := by decide +kernel
theorem dX8_neededOf_31 : decode cX8_neededOf 31 = .ok (.ixor, 1) := by decide +kernel
theorem dX8_neededOf_32 : decode cX8_neededOf 32 = .ok (.iand, 1) := by decide +kernel
theorem dX8_neededOf_33 : decode cX8_neededOf 33 = .ok (.ireturn, 1) := by decide +kernel
theorem dX8_firstLike_0 : decode cX8_firstLike 0 = .ok (.iconst 0, 1) := by decide +kernel
theorem dX8_firstLike_1 : decode cX8_firstLike 1 = .ok (.istore_n 2, 1) := by decide +kernel
theorem dX8_firstLike_2 : decode cX8_firstLike 2 = .ok (.iload_n 2, 1) := by decide +kernel
theorem dX8_firstLike_3 : decode cX8_firstLike 3 = .ok (.iload_n 1, 1) := by decide +kernel
theorem dX8_firstLike_4 : decode cX8_firstLike 4 = .ok (.if_icmp .ge 68, 3) := by decide +kernel
theorem dX8_firstLike_7 : decode cX8_firstLike 7 = .ok (.aload_n 0, 1) := by decide +kernel
theorem dX8_firstLike_8 : decode cX8_firstLike 8 = .ok (.getfield 18, 3) := by decide +kernel
theorem dX8_firstLike_11 : decode cX8_firstLike 11 = .ok (.iload_n 2, 1) := by decide +kernel
theorem dX8_firstLike_12 : decode cX8_firstLike 12 = .ok (.iaload, 1) := by decide +kernel
theorem dX8_firstLike_13 : decode cX8_firstLike 13 = .ok (.aload_n 0, 1) := by decide +kernel
theorem dX8_firstLike_14 : decode cX8_firstLike 14 = .ok (.getfield 18, 3) := by decide +kernel
theorem dX8_firstLike_17 : decode cX8_firstLike 17 = .ok (.iload_n 1, 1) := by decide +kernel
theorem dX8_firstLike_18 : decode cX8_firstLike 18 = .ok (.iaload, 1) := by decide +kernel
theorem dX8_firstLike_19 : decode cX8_firstLike 19 = .ok (.if_icmp .ne 47, 3) := by decide +kernel
theorem dX8_firstLike_22 : decode cX8_firstLike 22 = .ok (.aload_n 0, 1) := by decide +kernel
theorem dX8_firstLike_23 : decode cX8_firstLike 23 = .ok (.getfield 15, 3) := by decide +kernel
theorem dX8_firstLike_26 : decode cX8_firstLike 26 = .ok (.iload_n 2, 1) := by decide +kernel
theorem dX8_firstLike_27 : decode cX8_firstLike 27 = .ok (.iaload, 1) := by decide +kernel
theorem dX8_firstLike_28 : decode cX8_firstLike 28 = .ok (.invokestatic 41, 3) := by decide +kernel
theorem dX8_firstLike_31 : decode cX8_firstLike 31 = .ok (.aload_n 0, 1) := by decide +kernel
theorem dX8_firstLike_32 : decode cX8_firstLike 32 = .ok (.getfield 15, 3) := by decide +kernel
theorem dX8_firstLike_35 : decode cX8_firstLike 35 = .ok (.iload_n 1, 1) := by decide +kernel
theorem dX8_firstLike_36 : decode cX8_firstLike 36 = .ok (.iaload, 1) := by decide +kernel
theorem dX8_firstLike_37 : decode cX8_firstLike 37 = .ok (.invokestatic 41, 3) := by decide +kernel
theorem dX8_firstLike_40 : decode cX8_firstLike 40 = .ok (.if_icmp .ne 26, 3) := by decide +kernel
theorem dX8_firstLike_43 : decode cX8_firstLike 43 = .ok (.aload_n 0, 1) := by decide +kernel
theorem dX8_firstLike_44 : decode cX8_firstLike 44 = .ok (.getfield 21, 3) := by decide +kernel
theorem dX8_firstLike_47 : decode cX8_firstLike 47 = .ok (.iload_n 2, 1) := by decide +kernel
theorem dX8_firstLike_48 : decode cX8_firstLike 48 = .ok (.iaload, 1) := by decide +kernel
theorem dX8_firstLike_49 : decode cX8_firstLike 49 = .ok (.invokestatic 41, 3) := by decide +kernel
theorem dX8_firstLike_52 : decode cX8_firstLike 52 = .ok (.aload_n 0, 1) := by decide +kernel
theorem dX8_firstLike_53 : decode cX8_firstLike 53 = .ok (.getfield 21, 3) := by decide +kernel
theorem dX8_firstLike_56 : decode cX8_firstLike 56 = .ok (.iload_n 1, 1) := by decide +kernel
theorem dX8_firstLike_57 : decode cX8_firstLike 57 = .ok (.iaload, 1) := by decide +kernel
theorem dX8_firstLike_58 : decode cX8_firstLike 58 = .ok (.invokestatic 41, 3) := by decide +kernel
theorem dX8_firstLike_61 : decode cX8_firstLike 61 = .ok (.if_icmp .ne 5, 3) := by decide +kernel
theorem dX8_firstLike_64 : decode cX8_firstLike 64 = .ok (.iload_n 2, 1) := by decide +kernel
theorem dX8_firstLike_65 : decode cX8_firstLike 65 = .ok (.ireturn, 1) := by decide +kernel
theorem dX8_firstLike_66 : decode cX8_firstLike 66 = .ok (.iinc 2 1, 3) := by decide +kernel
theorem dX8_firstLike_69 : decode cX8_firstLike 69 = .ok (.goto (-67), 3) := by decide +kernel
theorem dX8_firstLike_72 : decode cX8_firstLike 72 = .ok (.iload_n 1, 1) := by decide +kernel
theorem dX8_firstLike_73 : decode cX8_firstLike 73 = .ok (.ireturn, 1) := by decide +kernel
theorem dX8_shiftNotes_0 : decode cX8_shiftNotes 0 = .ok (.iconst 0, 1) := by decide +kernel
theorem dX8_shiftNotes_1 : decode cX8_shiftNotes 1 = .ok (.istore_n 2, 1) := by decide +kernel
theorem dX8_shiftNotes_2 : decode cX8_shiftNotes 2 = .ok (.iload_n 2, 1) := by decide +kernel
theorem dX8_shiftNotes_3 : decode cX8_shiftNotes 3 = .ok (.aload_n 0, 1) := by decide +kernel
theorem dX8_shiftNotes_4 : decode cX8_shiftNotes 4 = .ok (.getfield 34, 3) := by decide +kernel
theorem dX8_shiftNotes_7 : decode cX8_shiftNotes 7 = .ok (.if_icmp .ge 43, 3) := by decide +kernel
theorem dX8_shiftNotes_10 : decode cX8_shiftNotes 10 = .ok (.aload_n 0, 1) := by decide +kernel
theorem dX8_shiftNotes_11 : decode cX8_shiftNotes 11 = .ok (.getfield 15, 3) := by decide +kernel
theorem dX8_shiftNotes_14 : decode cX8_shiftNotes 14 = .ok (.iload_n 2, 1) := by decide +kernel
theorem dX8_shiftNotes_15 : decode cX8_shiftNotes 15 = .ok (.aload_n 0, 1) := by decide +kernel
theorem dX8_shiftNotes_16 : decode cX8_shiftNotes 16 = .ok (.getfield 15, 3) := by decide +kernel
theorem dX8_shiftNotes_19 : decode cX8_shiftNotes 19 = .ok (.iload_n 2, 1) := by decide +kernel
theorem dX8_shiftNotes_20 : decode cX8_shiftNotes 20 = .ok (.iaload, 1) := by decide +kernel
theorem dX8_shiftNotes_21 : decode cX8_shiftNotes 21 = .ok (.iload_n 1, 1) := by decide +kernel
theorem dX8_shiftNotes_22 : decode cX8_shiftNotes 22 = .ok (.iadd, 1) := by decide +kernel
theorem dX8_shiftNotes_23 : decode cX8_shiftNotes 23 = .ok (.invokestatic 58, 3) := by decide +kernel
theorem dX8_shiftNotes_26 : decode cX8_shiftNotes 26 = .ok (.iastore, 1) := by decide +kernel
theorem dX8_shiftNotes_27 : decode cX8_shiftNotes 27 = .ok (.aload_n 0, 1) := by decide +kernel
theorem dX8_shiftNotes_28 : decode cX8_shiftNotes 28 = .ok (.getfield 21, 3) := by decide +kernel
theorem dX8_shiftNotes_31 : decode cX8_shiftNotes 31 = .ok (.iload_n 2, 1) := by decide +kernel
theorem dX8_shiftNotes_32 : decode cX8_shiftNotes 32 = .ok (.aload_n 0, 1) := by decide +kernel
theorem dX8_shiftNotes_33 : decode cX8_shiftNotes 33 = .ok (.getfield 21, 3) := by decide +kernel
theorem dX8_shiftNotes_36 : decode cX8_shiftNotes 36 = .ok (.iload_n 2, 1) := by decide +kernel
theorem dX8_shiftNotes_37 : decode cX8_shiftNotes 37 = .ok (.iaload, 1) := by decide +kernel
theorem dX8_shiftNotes_38 : decode cX8_shiftNotes 38 = .ok (.iload_n 1, 1) := by decide +kernel
theorem dX8_shiftNotes_39 : decode cX8_shiftNotes 39 = .ok (.iadd, 1) := by decide +kernel
theorem dX8_shiftNotes_40 : decode cX8_shiftNotes 40 = .ok (.invokestatic 58, 3) := by decide +kernel
theorem dX8_shiftNotes_43 : decode cX8_shiftNotes 43 = .ok (.iastore, 1) := by decide +kernel
theorem dX8_shiftNotes_44 : decode cX8_shiftNotes 44 = .ok (.iinc 2 1, 3) := by decide +kernel
theorem dX8_shiftNotes_47 : decode cX8_shiftNotes 47 = .ok (.goto (-45), 3) := by decide +kernel
theorem dX8_shiftNotes_50 : decode cX8_shiftNotes 50 = .ok (.return_, 1) := by decide +kernel
theorem dX8_chordsWithin_0 : decode cX8_chordsWithin 0 = .ok (.iconst 0, 1) := by decide +kernel
theorem dX8_chordsWithin_1 : decode cX8_chordsWithin 1 = .ok (.istore_n 2, 1) := by decide +kernel
theorem dX8_chordsWithin_2 : decode cX8_chordsWithin 2 = .ok (.iconst 0, 1) := by decide +kernel
theorem dX8_chordsWithin_3 : decode cX8_chordsWithin 3 = .ok (.istore_n 3, 1) := by decide +kernel
theorem dX8_chordsWithin_4 : decode cX8_chordsWithin 4 = .ok (.iload_n 3, 1) := by decide +kernel
theorem dX8_chordsWithin_5 : decode cX8_chordsWithin 5 = .ok (.aload_n 0, 1) := by decide +kernel
theorem dX8_chordsWithin_6 : decode cX8_chordsWithin 6 = .ok (.getfield 34, 3) := by decide +kernel
theorem dX8_chordsWithin_9 : decode cX8_chordsWithin 9 = .ok (.if_icmp .ge 24, 3) := by decide +kernel
theorem dX8_chordsWithin_12 : decode cX8_chordsWithin 12 = .ok (.aload_n 0, 1) := by decide +kernel
theorem dX8_chordsWithin_13 : decode cX8_chordsWithin 13 = .ok (.iload_n 3, 1) := by decide +kernel
theorem dX8_chordsWithin_14 : decode cX8_chordsWithin 14 = .ok (.invokevirtual 61, 3) := by decide +kernel
theorem dX8_chordsWithin_17 : decode cX8_chordsWithin 17 = .ok (.iload_n 1, 1) := by decide +kernel
theorem dX8_chordsWithin_18 : decode cX8_chordsWithin 18 = .ok (.iconst (-1), 1) := by decide +kernel
theorem dX8_chordsWithin_19 : decode cX8_chordsWithin 19 = .ok (.ixor, 1) := by decide +kernel
theorem dX8_chordsWithin_20 : decode cX8_chordsWithin 20 = .ok (.iand, 1) := by decide +kernel
theorem dX8_chordsWithin_21 : decode cX8_chordsWithin 21 = .ok (.ifCond .ne 6, 3) := by decide +kernel
theorem dX8_chordsWithin_24 : decode cX8_chordsWithin 24 = .ok (.iinc 2 1, 3) := by decide +kernel
theorem dX8_chordsWithin_27 : decode cX8_chordsWithin 27 = .ok (.iinc 3 1, 3) := by decide +kernel
theorem dX8_chordsWithin_30 : decode cX8_chordsWithin 30 = .ok (.goto (-26), 3) := by decide +kernel
theorem dX8_chordsWithin_33 : decode cX8_chordsWithin 33 = .ok (.iload_n 2, 1) := by decide +kernel
theorem dX8_chordsWithin_34 : decode cX8_chordsWithin 34 = .ok (.ireturn, 1) := by decide +kernel
theorem dX8_endOfLine_0 : decode cX8_endOfLine 0 = .ok (.iload_n 1, 1) := by decide +kernel
theorem dX8_endOfLine_1 : decode cX8_endOfLine 1 = .ok (.istore_n 2, 1) := by decide +kernel
theorem dX8_endOfLine_2 : decode cX8_endOfLine 2 = .ok (.iload_n 2, 1) := by decide +kernel
theorem dX8_endOfLine_3 : decode cX8_endOfLine 3 = .ok (.aload_n 0, 1) := by decide +kernel
theorem dX8_endOfLine_4 : decode cX8_endOfLine 4 = .ok (.getfield 27, 3) := by decide +kernel
theorem dX8_endOfLine_7 : decode cX8_endOfLine 7 = .ok (.if_icmp .ge 20, 3) := by decide +kernel
theorem dX8_endOfLine_10 : decode cX8_endOfLine 10 = .ok (.aload_n 0, 1) := by decide +kernel
theorem dX8_endOfLine_11 : decode cX8_endOfLine 11 = .ok (.getfield 9, 3) := by decide +kernel
theorem dX8_endOfLine_14 : decode cX8_endOfLine 14 = .ok (.iload_n 2, 1) := by decide +kernel
theorem dX8_endOfLine_15 : decode cX8_endOfLine 15 = .ok (.iaload, 1) := by decide +kernel
theorem dX8_endOfLine_16 : decode cX8_endOfLine 16 = .ok (.bipush 10, 2) := by decide +kernel
theorem dX8_endOfLine_18 : decode cX8_endOfLine 18 = .ok (.if_icmp .eq 9, 3) := by decide +kernel
theorem dX8_endOfLine_21 : decode cX8_endOfLine 21 = .ok (.iinc 2 1, 3) := by decide +kernel
theorem dX8_endOfLine_24 : decode cX8_endOfLine 24 = .ok (.goto (-22), 3) := by decide +kernel
theorem dX8_endOfLine_27 : decode cX8_endOfLine 27 = .ok (.iload_n 2, 1) := by decide +kernel
theorem dX8_endOfLine_28 : decode cX8_endOfLine 28 = .ok (.ireturn, 1) := by decide +kernel
theorem dX8_chordsStandIn_0 : decode cX8_chordsStandIn 0 = .ok (.iload_n 1, 1) := by decide +kernel
theorem dX8_chordsStandIn_1 : decode cX8_chordsStandIn 1 = .ok (.istore_n 3, 1) := by decide +kernel
theorem dX8_chordsStandIn_2 : decode cX8_chordsStandIn 2 = .ok (.iload_n 3, 1) := by decide +kernel
theorem dX8_chordsStandIn_3 : decode cX8_chordsStandIn 3 = .ok (.iload_n 2, 1) := by decide +kernel
theorem dX8_chordsStandIn_4 : decode cX8_chordsStandIn 4 = .ok (.if_icmp .ge 31, 3) := by decide +kernel
theorem dX8_chordsStandIn_7 : decode cX8_chordsStandIn 7 = .ok (.iload_n 3, 1) := by decide +kernel
theorem dX8_chordsStandIn_8 : decode cX8_chordsStandIn 8 = .ok (.aload_n 0, 1) := by decide +kernel
theorem dX8_chordsStandIn_9 : decode cX8_chordsStandIn 9 = .ok (.getfield 27, 3) := by decide +kernel
theorem dX8_chordsStandIn_12 : decode cX8_chordsStandIn 12 = .ok (.if_icmp .ge 23, 3) := by decide +kernel
theorem dX8_chordsStandIn_15 : decode cX8_chordsStandIn 15 = .ok (.aload_n 0, 1) := by decide +kernel
theorem dX8_chordsStandIn_16 : decode cX8_chordsStandIn 16 = .ok (.getfield 9, 3) := by decide +kernel
theorem dX8_chordsStandIn_19 : decode cX8_chordsStandIn 19 = .ok (.iload_n 3, 1) := by decide +kernel
theorem dX8_chordsStandIn_20 : decode cX8_chordsStandIn 20 = .ok (.iaload, 1) := by decide +kernel
theorem dX8_chordsStandIn_21 : decode cX8_chordsStandIn 21 = .ok (.sipush 256, 3) := by decide +kernel
theorem dX8_chordsStandIn_24 : decode cX8_chordsStandIn 24 = .ok (.if_icmp .lt 5, 3) := by decide +kernel
theorem dX8_chordsStandIn_27 : decode cX8_chordsStandIn 27 = .ok (.iconst 1, 1) := by decide +kernel
theorem dX8_chordsStandIn_28 : decode cX8_chordsStandIn 28 = .ok (.ireturn, 1) := by decide +kernel
theorem dX8_chordsStandIn_29 : decode cX8_chordsStandIn 29 = .ok (.iinc 3 1, 3) := by decide +kernel
theorem dX8_chordsStandIn_32 : decode cX8_chordsStandIn 32 = .ok (.goto (-30), 3) := by decide +kernel
theorem dX8_chordsStandIn_35 : decode cX8_chordsStandIn 35 = .ok (.iconst 0, 1) := by decide +kernel
theorem dX8_chordsStandIn_36 : decode cX8_chordsStandIn 36 = .ok (.ireturn, 1) := by decide +kernel
theorem dX8_nextWordByte_0 : decode cX8_nextWordByte 0 = .ok (.iload_n 1, 1) := by decide +kernel
theorem dX8_nextWordByte_1 : decode cX8_nextWordByte 1 = .ok (.istore_n 3, 1) := by decide +kernel
theorem dX8_nextWordByte_2 : decode cX8_nextWordByte 2 = .ok (.iload_n 3, 1) := by decide +kernel
theorem dX8_nextWordByte_3 : decode cX8_nextWordByte 3 = .ok (.iload_n 2, 1) := by decide +kernel
theorem dX8_nextWordByte_4 : decode cX8_nextWordByte 4 = .ok (.if_icmp .ge 36, 3) := by decide +kernel
theorem dX8_nextWordByte_7 : decode cX8_nextWordByte 7 = .ok (.iload_n 3, 1) := by decide +kernel
theorem dX8_nextWordByte_8 : decode cX8_nextWordByte 8 = .ok (.aload_n 0, 1) := by decide +kernel
theorem dX8_nextWordByte_9 : decode cX8_nextWordByte 9 = .ok (.getfield 27, 3) := by decide +kernel
theorem dX8_nextWordByte_12 : decode cX8_nextWordByte 12 = .ok (.if_icmp .ge 28, 3) := by decide +kernel
theorem dX8_nextWordByte_15 : decode cX8_nextWordByte 15 = .ok (.aload_n 0, 1) := by decide +kernel
theorem dX8_nextWordByte_16 : decode cX8_nextWordByte 16 = .ok (.getfield 9, 3) := by decide +kernel
theorem dX8_nextWordByte_19 : decode cX8_nextWordByte 19 = .ok (.iload_n 3, 1) := by decide +kernel
theorem dX8_nextWordByte_20 : decode cX8_nextWordByte 20 = .ok (.iaload, 1) := by decide +kernel
theorem dX8_nextWordByte_21 : decode cX8_nextWordByte 21 = .ok (.sipush 256, 3) := by decide +kernel
theorem dX8_nextWordByte_24 : decode cX8_nextWordByte 24 = .ok (.if_icmp .ge 10, 3) := by decide +kernel
theorem dX8_nextWordByte_27 : decode cX8_nextWordByte 27 = .ok (.aload_n 0, 1) := by decide +kernel
theorem dX8_nextWordByte_28 : decode cX8_nextWordByte 28 = .ok (.getfield 9, 3) := by decide +kernel
theorem dX8_nextWordByte_31 : decode cX8_nextWordByte 31 = .ok (.iload_n 3, 1) := by decide +kernel
theorem dX8_nextWordByte_32 : decode cX8_nextWordByte 32 = .ok (.iaload, 1) := by decide +kernel
theorem dX8_nextWordByte_33 : decode cX8_nextWordByte 33 = .ok (.ireturn, 1) := by decide +kernel
theorem dX8_nextWordByte_34 : decode cX8_nextWordByte 34 = .ok (.iinc 3 1, 3) := by decide +kernel
theorem dX8_nextWordByte_37 : decode cX8_nextWordByte 37 = .ok (.goto (-35), 3) := by decide +kernel
theorem dX8_nextWordByte_40 : decode cX8_nextWordByte 40 = .ok (.iconst (-1), 1) := by decide +kernel
theorem dX8_nextWordByte_41 : decode cX8_nextWordByte 41 = .ok (.ireturn, 1) := by decide +kernel
theorem dX9_init_0 : decode cX9_init 0 = .ok (.aload_n 0, 1) := by decide +kernel
theorem dX9_init_1 : decode cX9_init 1 = .ok (.invokespecial 3, 3) := by decide +kernel
theorem dX9_init_4 : decode cX9_init 4 = .ok (.aload_n 0, 1) := by decide +kernel
theorem dX9_init_5 : decode cX9_init 5 = .ok (.bipush 60, 2) := by decide +kernel
theorem dX9_init_7 : decode cX9_init 7 = .ok (.newarray .int, 2) := by decide +kernel
theorem dX9_init_9 : decode cX9_init 9 = .ok (.putfield 9, 3) := by decide +kernel
theorem dX9_init_12 : decode cX9_init 12 = .ok (.return_, 1) := by decide +kernel
theorem dX9_putSong_0 : decode cX9_putSong 0 = .ok (.iconst 0, 1) := by decide +kernel
theorem dX9_putSong_1 : decode cX9_putSong 1 = .ok (.istore_n 3, 1) := by decide +kernel
theorem dX9_putSong_2 : decode cX9_putSong 2 = .ok (.iconst 0, 1) := by decide +kernel
theorem dX9_putSong_3 : decode cX9_putSong 3 = .ok (.istore 4, 2) := by decide +kernel
theorem dX9_putSong_5 : decode cX9_putSong 5 = .ok (.iload 4, 2) := by decide +kernel
theorem dX9_putSong_7 : decode cX9_putSong 7 = .ok (.aload_n 1, 1) := by decide +kernel
theorem dX9_putSong_8 : decode cX9_putSong 8 = .ok (.getfield 15, 3) := by decide +kernel
theorem dX9_putSong_11 : decode cX9_putSong 11 = .ok (.if_icmp .ge 66, 3) := by decide +kernel
theorem dX9_putSong_14 : decode cX9_putSong 14 = .ok (.iload 4, 2) := by decide +kernel
theorem dX9_putSong_16 : decode cX9_putSong 16 = .ok (.ifCond .le 9, 3) := by decide +kernel
theorem dX9_putSong_19 : decode cX9_putSong 19 = .ok (.aload_n 2, 1) := by decide +kernel
theorem dX9_putSong_20 : decode cX9_putSong 20 = .ok (.bipush 10, 2) := by decide +kernel
theorem dX9_putSong_22 : decode cX9_putSong 22 = .ok (.invokevirtual 21, 3) := by decide +kernel
theorem dX9_putSong_25 : decode cX9_putSong 25 = .ok (.aload_n 1, 1) := by decide +kernel
theorem dX9_putSong_26 : decode cX9_putSong 26 = .ok (.iload_n 3, 1) := by decide +kernel
theorem dX9_putSong_27 : decode cX9_putSong 27 = .ok (.invokevirtual 27, 3) := by decide +kernel
theorem dX9_putSong_30 : decode cX9_putSong 30 = .ok (.istore 5, 2) := by decide +kernel
theorem dX9_putSong_32 : decode cX9_putSong 32 = .ok (.aload_n 1, 1) := by decide +kernel
theorem dX9_putSong_33 : decode cX9_putSong 33 = .ok (.iload_n 3, 1) := by decide +kernel
theorem dX9_putSong_34 : decode cX9_putSong 34 = .ok (.iload 5, 2) := by decide +kernel
theorem dX9_putSong_36 : decode cX9_putSong 36 = .ok (.invokevirtual 31, 3) := by decide +kernel
theorem dX9_putSong_39 : decode cX9_putSong 39 = .ok (.ifCond .eq 18, 3) := by decide +kernel
theorem dX9_putSong_42 : decode cX9_putSong 42 = .ok (.aload_n 0, 1) := by decide +kernel
theorem dX9_putSong_43 : decode cX9_putSong 43 = .ok (.aload_n 1, 1) := by decide +kernel
theorem dX9_putSong_44 : decode cX9_putSong 44 = .ok (.iload_n 3, 1) := by decide +kernel
theorem dX9_putSong_45 : decode cX9_putSong 45 = .ok (.iload 5, 2) := by decide +kernel
theorem dX9_putSong_47 : decode cX9_putSong 47 = .ok (.aload_n 2, 1) := by decide +kernel
theorem dX9_putSong_48 : decode cX9_putSong 48 = .ok (.invokevirtual 35, 3) := by decide +kernel
theorem dX9_putSong_51 : decode cX9_putSong 51 = .ok (.aload_n 2, 1) := by decide +kernel
theorem dX9_putSong_52 : decode cX9_putSong 52 = .ok (.bipush 10, 2) := by decide +kernel
theorem dX9_putSong_54 : decode cX9_putSong 54 = .ok (.invokevirtual 21, 3) := by decide +kernel
theorem dX9_putSong_57 : decode cX9_putSong 57 = .ok (.aload_n 0, 1) := by decide +kernel
theorem dX9_putSong_58 : decode cX9_putSong 58 = .ok (.aload_n 1, 1) := by decide +kernel
theorem dX9_putSong_59 : decode cX9_putSong 59 = .ok (.iload_n 3, 1) := by decide +kernel
theorem dX9_putSong_60 : decode cX9_putSong 60 = .ok (.iload 5, 2) := by decide +kernel
theorem dX9_putSong_62 : decode cX9_putSong 62 = .ok (.aload_n 2, 1) := by decide +kernel
theorem dX9_putSong_63 : decode cX9_putSong 63 = .ok (.invokevirtual 39, 3) := by decide +kernel
theorem dX9_putSong_66 : decode cX9_putSong 66 = .ok (.iload 5, 2) := by decide +kernel
theorem dX9_putSong_68 : decode cX9_putSong 68 = .ok (.iconst 1, 1) := by decide +kernel
theorem dX9_putSong_69 : decode cX9_putSong 69 = .ok (.iadd, 1) := by decide +kernel
theorem dX9_putSong_70 : decode cX9_putSong 70 = .ok (.istore_n 3, 1) := by decide +kernel
theorem dX9_putSong_71 : decode cX9_putSong 71 = .ok (.iinc 4 1, 3) := by decide +kernel
theorem dX9_putSong_74 : decode cX9_putSong 74 = .ok (.goto (-69), 3) := by decide +kernel
theorem dX9_putSong_77 : decode cX9_putSong 77 = .ok (.return_, 1) := by decide +kernel
theorem dX9_putNames_0 : decode cX9_putNames 0 = .ok (.iconst 0, 1) := by decide +kernel
theorem dX9_putNames_1 : decode cX9_putNames 1 = .ok (.istore 5, 2) := by decide +kernel
theorem dX9_putNames_3 : decode cX9_putNames 3 = .ok (.iconst 0, 1) := by decide +kernel
theorem dX9_putNames_4 : decode cX9_putNames 4 = .ok (.istore 6, 2) := by decide +kernel
theorem dX9_putNames_6 : decode cX9_putNames 6 = .ok (.iload_n 2, 1) := by decide +kernel
theorem dX9_putNames_7 : decode cX9_putNames 7 = .ok (.istore 7, 2) := by decide +kernel
theorem dX9_putNames_9 : decode cX9_putNames 9 = .ok (.iload 7, 2) := by decide +kernel
theorem dX9_putNames_11 : decode cX9_putNames 11 = .ok (.iload_n 3, 1) := by decide +kernel
theorem dX9_putNames_12 : decode cX9_putNames 12 = .ok (.if_icmp .ge 129, 3) := by decide +kernel
theorem dX9_putNames_15 : decode cX9_putNames 15 = .ok (.iload 7, 2) := by decide +kernel
theorem dX9_putNames_17 : decode cX9_putNames 17 = .ok (.aload_n 1, 1) := by decide +kernel
theorem dX9_putNames_18 : decode cX9_putNames 18 = .ok (.getfield 42, 3) := by decide +kernel
theorem dX9_putNames_21 : decode cX9_putNames 21 = .ok (.if_icmp .ge 120, 3) := by decide +kernel
theorem dX9_putNames_24 : decode cX9_putNames 24 = .ok (.aload_n 1, 1) := by decide +kernel
theorem dX9_putNames_25 : decode cX9_putNames 25 = .ok (.getfield 45, 3) := by decide +kernel
theorem dX9_putNames_28 : decode cX9_putNames 28 = .ok (.iload 7, 2) := by decide +kernel
theorem dX9_putNames_30 : decode cX9_putNames 30 = .ok (.iaload, 1) := by decide +kernel
theorem dX9_putNames_31 : decode cX9_putNames 31 = .ok (.sipush 256, 3) := by decide +kernel
theorem dX9_putNames_34 : decode cX9_putNames 34 = .ok (.isub, 1) := by decide +kernel
theorem dX9_putNames_35 : decode cX9_putNames 35 = .ok (.istore 8, 2) := by decide +kernel
theorem dX9_putNames_37 : decode cX9_putNames 37 = .ok (.aload_n 1, 1) := by decide +kernel
theorem dX9_putNames_38 : decode cX9_putNames 38 = .ok (.iload 8, 2) := by decide +kernel
theorem dX9_putNames_40 : decode cX9_putNames 40 = .ok (.invokevirtual 48, 3) := by decide +kernel
theorem dX9_putNames_43 : decode cX9_putNames 43 = .ok (.ifCond .ne 9, 3) := by decide +kernel
theorem dX9_putNames_46 : decode cX9_putNames 46 = .ok (.iinc 5 1, 3) := by decide +kernel
theorem dX9_putNames_49 : decode cX9_putNames 49 = .ok (.goto 86, 3) := by decide +kernel
theorem dX9_putNames_52 : decode cX9_putNames 52 = .ok (.iload 6, 2) := by decide +kernel
theorem dX9_putNames_54 : decode cX9_putNames 54 = .ok (.ifCond .ne 7, 3) := by decide +kernel
theorem dX9_putNames_57 : decode cX9_putNames 57 = .ok (.iconst 0, 1) := by decide +kernel
theorem dX9_putNames_58 : decode cX9_putNames 58 = .ok (.goto 7, 3) := by decide +kernel
theorem dX9_putNames_61 : decode cX9_putNames 61 = .ok (.iload 6, 2) := by decide +kernel
theorem dX9_putNames_63 : decode cX9_putNames 63 = .ok (.iconst 1, 1) := by decide +kernel
theorem dX9_putNames_64 : decode cX9_putNames 64 = .ok (.iadd, 1) := by decide +kernel
theorem dX9_putNames_65 : decode cX9_putNames 65 = .ok (.istore 9, 2) := by decide +kernel
theorem dX9_putNames_67 : decode cX9_putNames 67 = .ok (.aload_n 0, 1) := by decide +kernel
theorem dX9_putNames_68 : decode cX9_putNames 68 = .ok (.getfield 9, 3) := by decide +kernel
theorem dX9_putNames_71 : decode cX9_putNames 71 = .ok (.iload 8, 2) := by decide +kernel
theorem dX9_putNames_73 : decode cX9_putNames 73 = .ok (.iconst 0, 1) := by decide +kernel
theorem dX9_putNames_74 : decode cX9_putNames 74 = .ok (.iload 9, 2) := by decide +kernel
theorem dX9_putNames_76 : decode cX9_putNames 76 = .ok (.iload 5, 2) := by decide +kernel
theorem dX9_putNames_78 : decode cX9_putNames 78 = .ok (.isub, 1) := by decide +kernel
theorem dX9_putNames_79 : decode cX9_putNames 79 = .ok (.invokestatic 52, 3) := by decide +kernel
theorem dX9_putNames_82 : decode cX9_putNames 82 = .ok (.iastore, 1) := by decide +kernel
theorem dX9_putNames_83 : decode cX9_putNames 83 = .ok (.iload 5, 2) := by decide +kernel
theorem dX9_putNames_85 : decode cX9_putNames 85 = .ok (.aload_n 0, 1) := by decide +kernel
theorem dX9_putNames_86 : decode cX9_putNames 86 = .ok (.getfield 9, 3) := by decide +kernel
theorem dX9_putNames_89 : decode cX9_putNames 89 = .ok (.iload 8, 2) := by decide +kernel
theorem dX9_putNames_91 : decode cX9_putNames 91 = .ok (.iaload, 1) := by decide +kernel
theorem dX9_putNames_92 : decode cX9_putNames 92 = .ok (.iadd, 1) := by decide +kernel
theorem dX9_putNames_93 : decode cX9_putNames 93 = .ok (.istore 5, 2) := by decide +kernel
theorem dX9_putNames_95 : decode cX9_putNames 95 = .ok (.aload 4, 2) := by decide +kernel
theorem dX9_putNames_97 : decode cX9_putNames 97 = .ok (.bipush 32, 2) := by decide +kernel
theorem dX9_putNames_99 : decode cX9_putNames 99 = .ok (.iload 5, 2) := by decide +kernel
theorem dX9_putNames_101 : decode cX9_putNames 101 = .ok (.iload 6, 2) := by decide +kernel
theorem dX9_putNames_103 : decode cX9_putNames 103 = .ok (.isub, 1) := by decide +kernel
theorem dX9_putNames_104 : decode cX9_putNames 104 = .ok (.invokevirtual 58, 3) := by decide +kernel
theorem dX9_putNames_107 : decode cX9_putNames 107 = .ok (.aload 4, 2) := by decide +kernel
theorem dX9_putNames_109 : decode cX9_putNames 109 = .ok (.getfield 62, 3) := by decide +kernel
theorem dX9_putNames_112 : decode cX9_putNames 112 = .ok (.istore 10, 2) := by decide +kernel
theorem dX9_putNames_114 : decode cX9_putNames 114 = .ok (.aload 4, 2) := by decide +kernel
theorem dX9_putNames_116 : decode cX9_putNames 116 = .ok (.aload_n 1, 1) := by decide +kernel
theorem dX9_putNames_117 : decode cX9_putNames 117 = .ok (.iload 8, 2) := by decide +kernel
theorem dX9_putNames_119 : decode cX9_putNames 119 = .ok (.invokevirtual 65, 3) := by decide +kernel
theorem dX9_putNames_122 : decode cX9_putNames 122 = .ok (.iload 5, 2) := by decide +kernel
theorem dX9_putNames_124 : decode cX9_putNames 124 = .ok (.aload 4, 2) := by decide +kernel
theorem dX9_putNames_126 : decode cX9_putNames 126 = .ok (.getfield 62, 3) := by decide +kernel
theorem dX9_putNames_129 : decode cX9_putNames 129 = .ok (.iadd, 1) := by decide +kernel
theorem dX9_putNames_130 : decode cX9_putNames 130 = .ok (.iload 10, 2) := by decide +kernel
theorem dX9_putNames_132 : decode cX9_putNames 132 = .ok (.isub, 1) := by decide +kernel
theorem dX9_putNames_133 : decode cX9_putNames 133 = .ok (.istore 6, 2) := by decide +kernel
theorem dX9_putNames_135 : decode cX9_putNames 135 = .ok (.iinc 7 1, 3) := by decide +kernel
theorem dX9_putNames_138 : decode cX9_putNames 138 = .ok (.goto (-129), 3) := by decide +kernel
theorem dX9_putNames_141 : decode cX9_putNames 141 = .ok (.return_, 1) := by decide +kernel
theorem dX9_putWords_0 : decode cX9_putWords 0 = .ok (.iconst (-1), 1) := by decide +kernel
theorem dX9_putWords_1 : decode cX9_putWords 1 = .ok (.istore 5, 2) := by decide +kernel
theorem dX9_putWords_3 : decode cX9_putWords 3 = .ok (.iload_n 2, 1) := by decide +kernel
theorem dX9_putWords_4 : decode cX9_putWords 4 = .ok (.istore 6, 2) := by decide +kernel
theorem dX9_putWords_6 : decode cX9_putWords 6 = .ok (.iload 6, 2) := by decide +kernel
theorem dX9_putWords_8 : decode cX9_putWords 8 = .ok (.iload_n 3, 1) := by decide +kernel
theorem dX9_putWords_9 : decode cX9_putWords 9 = .ok (.if_icmp .ge 110, 3) := by decide +kernel
theorem dX9_putWords_12 : decode cX9_putWords 12 = .ok (.iload 6, 2) := by decide +kernel
theorem dX9_putWords_14 : decode cX9_putWords 14 = .ok (.aload_n 1, 1) := by decide +kernel
theorem dX9_putWords_15 : decode cX9_putWords 15 = .ok (.getfield 42, 3) := by decide +kernel
theorem dX9_putWords_18 : decode cX9_putWords 18 = .ok (.if_icmp .ge 101, 3) := by decide +kernel
theorem dX9_putWords_21 : decode cX9_putWords 21 = .ok (.aload_n 1, 1) := by decide +kernel
theorem dX9_putWords_22 : decode cX9_putWords 22 = .ok (.getfield 45, 3) := by decide +kernel
theorem dX9_putWords_25 : decode cX9_putWords 25 = .ok (.iload 6, 2) := by decide +kernel
theorem dX9_putWords_27 : decode cX9_putWords 27 = .ok (.iaload, 1) := by decide +kernel
theorem dX9_putWords_28 : decode cX9_putWords 28 = .ok (.istore 7, 2) := by decide +kernel
theorem dX9_putWords_30 : decode cX9_putWords 30 = .ok (.iload 7, 2) := by decide +kernel
theorem dX9_putWords_32 : decode cX9_putWords 32 = .ok (.sipush 256, 3) := by decide +kernel
theorem dX9_putWords_35 : decode cX9_putWords 35 = .ok (.isub, 1) := by decide +kernel
theorem dX9_putWords_36 : decode cX9_putWords 36 = .ok (.istore 8, 2) := by decide +kernel
theorem dX9_putWords_38 : decode cX9_putWords 38 = .ok (.aload_n 1, 1) := by decide +kernel
theorem dX9_putWords_39 : decode cX9_putWords 39 = .ok (.iload 8, 2) := by decide +kernel
theorem dX9_putWords_41 : decode cX9_putWords 41 = .ok (.invokevirtual 48, 3) := by decide +kernel
theorem dX9_putWords_44 : decode cX9_putWords 44 = .ok (.ifCond .eq 58, 3) := by decide +kernel
theorem dX9_putWords_47 : decode cX9_putWords 47 = .ok (.iload 5, 2) := by decide +kernel
theorem dX9_putWords_49 : decode cX9_putWords 49 = .ok (.invokestatic 69, 3) := by decide +kernel
theorem dX9_putWords_52 : decode cX9_putWords 52 = .ok (.ifCond .eq 20, 3) := by decide +kernel
theorem dX9_putWords_55 : decode cX9_putWords 55 = .ok (.aload_n 1, 1) := by decide +kernel
theorem dX9_putWords_56 : decode cX9_putWords 56 = .ok (.iload 6, 2) := by decide +kernel
theorem dX9_putWords_58 : decode cX9_putWords 58 = .ok (.iload_n 3, 1) := by decide +kernel
theorem dX9_putWords_59 : decode cX9_putWords 59 = .ok (.invokevirtual 72, 3) := by decide +kernel
theorem dX9_putWords_62 : decode cX9_putWords 62 = .ok (.invokestatic 69, 3) := by decide +kernel
theorem dX9_putWords_65 : decode cX9_putWords 65 = .ok (.ifCond .eq 7, 3) := by decide +kernel
theorem dX9_putWords_68 : decode cX9_putWords 68 = .ok (.iconst 1, 1) := by decide +kernel
theorem dX9_putWords_69 : decode cX9_putWords 69 = .ok (.goto 4, 3) := by decide +kernel
theorem dX9_putWords_72 : decode cX9_putWords 72 = .ok (.iconst 0, 1) := by decide +kernel
theorem dX9_putWords_73 : decode cX9_putWords 73 = .ok (.istore 9, 2) := by decide +kernel
theorem dX9_putWords_75 : decode cX9_putWords 75 = .ok (.aload 4, 2) := by decide +kernel
theorem dX9_putWords_77 : decode cX9_putWords 77 = .ok (.iload 9, 2) := by decide +kernel
theorem dX9_putWords_79 : decode cX9_putWords 79 = .ok (.ifCond .eq 8, 3) := by decide +kernel
theorem dX9_putWords_82 : decode cX9_putWords 82 = .ok (.bipush 45, 2) := by decide +kernel
theorem dX9_putWords_84 : decode cX9_putWords 84 = .ok (.goto 5, 3) := by decide +kernel
theorem dX9_putWords_87 : decode cX9_putWords 87 = .ok (.bipush 32, 2) := by decide +kernel
theorem dX9_putWords_89 : decode cX9_putWords 89 = .ok (.aload_n 0, 1) := by decide +kernel
theorem dX9_putWords_90 : decode cX9_putWords 90 = .ok (.getfield 9, 3) := by decide +kernel
theorem dX9_putWords_93 : decode cX9_putWords 93 = .ok (.iload 8, 2) := by decide +kernel
theorem dX9_putWords_95 : decode cX9_putWords 95 = .ok (.iaload, 1) := by decide +kernel
theorem dX9_putWords_96 : decode cX9_putWords 96 = .ok (.invokevirtual 58, 3) := by decide +kernel
theorem dX9_putWords_99 : decode cX9_putWords 99 = .ok (.goto 14, 3) := by decide +kernel
theorem dX9_putWords_102 : decode cX9_putWords 102 = .ok (.aload 4, 2) := by decide +kernel
theorem dX9_putWords_104 : decode cX9_putWords 104 = .ok (.iload 7, 2) := by decide +kernel
theorem dX9_putWords_106 : decode cX9_putWords 106 = .ok (.invokevirtual 21, 3) := by decide +kernel
theorem dX9_putWords_109 : decode cX9_putWords 109 = .ok (.iload 7, 2) := by decide +kernel
theorem dX9_putWords_111 : decode cX9_putWords 111 = .ok (.istore 5, 2) := by decide +kernel
theorem dX9_putWords_113 : decode cX9_putWords 113 = .ok (.iinc 6 1, 3) := by decide +kernel
theorem dX9_putWords_116 : decode cX9_putWords 116 = .ok (.goto (-110), 3) := by decide +kernel
theorem dX9_putWords_119 : decode cX9_putWords 119 = .ok (.return_, 1) := by decide +kernel
theorem dX9_isLetter_0 : decode cX9_isLetter 0 = .ok (.iload_n 0, 1) := by decide +kernel
theorem dX9_isLetter_1 : decode cX9_isLetter 1 = .ok (.bipush 65, 2) := by decide +kernel
theorem dX9_isLetter_3 : decode cX9_isLetter 3 = .ok (.if_icmp .lt 9, 3) := by decide +kernel
theorem dX9_isLetter_6 : decode cX9_isLetter 6 = .ok (.iload_n 0, 1) := by decide +kernel
theorem dX9_isLetter_7 : decode cX9_isLetter 7 = .ok (.bipush 90, 2) := by decide +kernel
theorem dX9_isLetter_9 : decode cX9_isLetter 9 = .ok (.if_icmp .le 15, 3) := by decide +kernel
theorem dX9_isLetter_12 : decode cX9_isLetter 12 = .ok (.iload_n 0, 1) := by decide +kernel
theorem dX9_isLetter_13 : decode cX9_isLetter 13 = .ok (.bipush 97, 2) := by decide +kernel
theorem dX9_isLetter_15 : decode cX9_isLetter 15 = .ok (.if_icmp .lt 13, 3) := by decide +kernel
theorem dX9_isLetter_18 : decode cX9_isLetter 18 = .ok (.iload_n 0, 1) := by decide +kernel
theorem dX9_isLetter_19 : decode cX9_isLetter 19 = .ok (.bipush 122, 2) := by decide +kernel
theorem dX9_isLetter_21 : decode cX9_isLetter 21 = .ok (.if_icmp .gt 7, 3) := by decide +kernel
theorem dX9_isLetter_24 : decode cX9_isLetter 24 = .ok (.iconst 1, 1) := by decide +kernel
theorem dX9_isLetter_25 : decode cX9_isLetter 25 = .ok (.goto 4, 3) := by decide +kernel
theorem dX9_isLetter_28 : decode cX9_isLetter 28 = .ok (.iconst 0, 1) := by decide +kernel
theorem dX9_isLetter_29 : decode cX9_isLetter 29 = .ok (.ireturn, 1) := by decide +kernel
theorem dX10_init_0 : decode cX10_init 0 = .ok (.aload_n 0, 1) := by decide +kernel
theorem dX10_init_1 : decode cX10_init 1 = .ok (.invokespecial 1, 3) := by decide +kernel
theorem dX10_init_4 : decode cX10_init 4 = .ok (.aload_n 0, 1) := by decide +kernel
theorem dX10_init_5 : decode cX10_init 5 = .ok (.sipush 1200, 3) := by decide +kernel
theorem dX10_init_8 : decode cX10_init 8 = .ok (.newarray .int, 2) := by decide +kernel
theorem dX10_init_10 : decode cX10_init 10 = .ok (.putfield 9, 3) := by decide +kernel
theorem dX10_init_13 : decode cX10_init 13 = .ok (.aload_n 0, 1) := by decide +kernel
theorem dX10_init_14 : decode cX10_init 14 = .ok (.new 13, 3) := by decide +kernel
theorem dX10_init_17 : decode cX10_init 17 = .ok (.dup, 1) := by decide +kernel
theorem dX10_init_18 : decode cX10_init 18 = .ok (.invokespecial 15, 3) := by decide +kernel
theorem dX10_init_21 : decode cX10_init 21 = .ok (.putfield 16, 3) := by decide +kernel
theorem dX10_init_24 : decode cX10_init 24 = .ok (.aload_n 0, 1) := by decide +kernel
theorem dX10_init_25 : decode cX10_init 25 = .ok (.new 20, 3) := by decide +kernel
theorem dX10_init_28 : decode cX10_init 28 = .ok (.dup, 1) := by decide +kernel
theorem dX10_init_29 : decode cX10_init 29 = .ok (.invokespecial 22, 3) := by decide +kernel
theorem dX10_init_32 : decode cX10_init 32 = .ok (.putfield 23, 3) := by decide +kernel
theorem dX10_init_35 : decode cX10_init 35 = .ok (.aload_n 0, 1) := by decide +kernel
theorem dX10_init_36 : decode cX10_init 36 = .ok (.new 20, 3) := by decide +kernel
theorem dX10_init_39 : decode cX10_init 39 = .ok (.dup, 1) := by decide +kernel
theorem dX10_init_40 : decode cX10_init 40 = .ok (.invokespecial 22, 3) := by decide +kernel
theorem dX10_init_43 : decode cX10_init 43 = .ok (.putfield 27, 3) := by decide +kernel
theorem dX10_init_46 : decode cX10_init 46 = .ok (.aload_n 0, 1) := by decide +kernel
theorem dX10_init_47 : decode cX10_init 47 = .ok (.iconst (-1), 1) := by decide +kernel
theorem dX10_init_48 : decode cX10_init 48 = .ok (.putfield 30, 3) := by decide +kernel
theorem dX10_init_51 : decode cX10_init 51 = .ok (.aload_n 0, 1) := by decide +kernel
theorem dX10_init_52 : decode cX10_init 52 = .ok (.new 34, 3) := by decide +kernel
theorem dX10_init_55 : decode cX10_init 55 = .ok (.dup, 1) := by decide +kernel
theorem dX10_init_56 : decode cX10_init 56 = .ok (.invokespecial 36, 3) := by decide +kernel
theorem dX10_init_59 : decode cX10_init 59 = .ok (.putfield 37, 3) := by decide +kernel
theorem dX10_init_62 : decode cX10_init 62 = .ok (.aload_n 0, 1) := by decide +kernel
theorem dX10_init_63 : decode cX10_init 63 = .ok (.new 41, 3) := by decide +kernel
theorem dX10_init_66 : decode cX10_init 66 = .ok (.dup, 1) := by decide +kernel
theorem dX10_init_67 : decode cX10_init 67 = .ok (.invokespecial 43, 3) := by decide +kernel
theorem dX10_init_70 : decode cX10_init 70 = .ok (.putfield 44, 3) := by decide +kernel
theorem dX10_init_73 : decode cX10_init 73 = .ok (.aload_n 0, 1) := by decide +kernel
theorem dX10_init_74 : decode cX10_init 74 = .ok (.new 48, 3) := by decide +kernel
theorem dX10_init_77 : decode cX10_init 77 = .ok (.dup, 1) := by decide +kernel
theorem dX10_init_78 : decode cX10_init 78 = .ok (.invokespecial 50, 3) := by decide +kernel
theorem dX10_init_81 : decode cX10_init 81 = .ok (.putfield 51, 3) := by decide +kernel
theorem dX10_init_84 : decode cX10_init 84 = .ok (.aload_n 0, 1) := by decide +kernel
theorem dX10_init_85 : decode cX10_init 85 = .ok (.new 55, 3) := by decide +kernel
theorem dX10_init_88 : decode cX10_init 88 = .ok (.dup, 1) := by decide +kernel
theorem dX10_init_89 : decode cX10_init 89 = .ok (.invokespecial 57, 3) := by decide +kernel
theorem dX10_init_92 : decode cX10_init 92 = .ok (.putfield 58, 3) := by decide +kernel
theorem dX10_init_95 : decode cX10_init 95 = .ok (.aload_n 0, 1) := by decide +kernel
theorem dX10_init_96 : decode cX10_init 96 = .ok (.new 62, 3) := by decide +kernel
theorem dX10_init_99 : decode cX10_init 99 = .ok (.dup, 1) := by decide +kernel
theorem dX10_init_100 : decode cX10_init 100 = .ok (.invokespecial 64, 3) := by decide +kernel
theorem dX10_init_103 : decode cX10_init 103 = .ok (.putfield 65, 3) := by decide +kernel
theorem dX10_init_106 : decode cX10_init 106 = .ok (.return_, 1) := by decide +kernel
theorem dX10_feed_0 : decode cX10_feed 0 = .ok (.aload_n 0, 1) := by decide +kernel
theorem dX10_feed_1 : decode cX10_feed 1 = .ok (.getfield 69, 3) := by decide +kernel
theorem dX10_feed_4 : decode cX10_feed 4 = .ok (.bipush 20, 2) := by decide +kernel
theorem dX10_feed_6 : decode cX10_feed 6 = .ok (.iadd, 1) := by decide +kernel
theorem dX10_feed_7 : decode cX10_feed 7 = .ok (.sipush 1200, 3) := by decide +kernel
theorem dX10_feed_10 : decode cX10_feed 10 = .ok (.if_icmp .le 5, 3) := by decide +kernel
theorem dX10_feed_13 : decode cX10_feed 13 = .ok (.iconst (-1), 1) := by decide +kernel
theorem dX10_feed_14 : decode cX10_feed 14 = .ok (.ireturn, 1) := by decide +kernel
theorem dX10_feed_15 : decode cX10_feed 15 = .ok (.aload_n 0, 1) := by decide +kernel
theorem dX10_feed_16 : decode cX10_feed 16 = .ok (.iload_n 1, 1) := by decide +kernel
theorem dX10_feed_17 : decode cX10_feed 17 = .ok (.invokevirtual 72, 3) := by decide +kernel
theorem dX10_feed_20 : decode cX10_feed 20 = .ok (.aload_n 0, 1) := by decide +kernel
theorem dX10_feed_21 : decode cX10_feed 21 = .ok (.iload_n 2, 1) := by decide +kernel
theorem dX10_feed_22 : decode cX10_feed 22 = .ok (.invokevirtual 72, 3) := by decide +kernel
theorem dX10_feed_25 : decode cX10_feed 25 = .ok (.aload_n 0, 1) := by decide +kernel
theorem dX10_feed_26 : decode cX10_feed 26 = .ok (.iload_n 3, 1) := by decide +kernel
theorem dX10_feed_27 : decode cX10_feed 27 = .ok (.invokevirtual 72, 3) := by decide +kernel
theorem dX10_feed_30 : decode cX10_feed 30 = .ok (.aload_n 0, 1) := by decide +kernel
theorem dX10_feed_31 : decode cX10_feed 31 = .ok (.iload 4, 2) := by decide +kernel
theorem dX10_feed_33 : decode cX10_feed 33 = .ok (.invokevirtual 72, 3) := by decide +kernel
theorem dX10_feed_36 : decode cX10_feed 36 = .ok (.aload_n 0, 1) := by decide +kernel
theorem dX10_feed_37 : decode cX10_feed 37 = .ok (.iload 5, 2) := by decide +kernel
theorem dX10_feed_39 : decode cX10_feed 39 = .ok (.invokevirtual 72, 3) := by decide +kernel
theorem dX10_feed_42 : decode cX10_feed 42 = .ok (.aload_n 0, 1) := by decide +kernel
theorem dX10_feed_43 : decode cX10_feed 43 = .ok (.getfield 69, 3) := by decide +kernel
theorem dX10_feed_46 : decode cX10_feed 46 = .ok (.ireturn, 1) := by decide +kernel
theorem dX10_song_0 : decode cX10_song 0 = .ok (.iload_n 1, 1) := by decide +kernel
theorem dX10_song_1 : decode cX10_song 1 = .ok (.ifCond .lt 11, 3) := by decide +kernel
theorem dX10_song_4 : decode cX10_song 4 = .ok (.iload_n 1, 1) := by decide +kernel
theorem dX10_song_5 : decode cX10_song 5 = .ok (.aload_n 0, 1) := by decide +kernel
theorem dX10_song_6 : decode cX10_song 6 = .ok (.getfield 69, 3) := by decide +kernel
theorem dX10_song_9 : decode cX10_song 9 = .ok (.if_icmp .le 13, 3) := by decide +kernel
theorem dX10_song_12 : decode cX10_song 12 = .ok (.new 76, 3) := by decide +kernel
theorem dX10_song_15 : decode cX10_song 15 = .ok (.dup, 1) := by decide +kernel
theorem dX10_song_16 : decode cX10_song 16 = .ok (.ldc 78, 2) := by decide +kernel
theorem dX10_song_18 : decode cX10_song 18 = .ok (.invokespecial 80, 3) := by decide +kernel
theorem dX10_song_21 : decode cX10_song 21 = .ok (.athrow, 1) := by decide +kernel
theorem dX10_song_22 : decode cX10_song 22 = .ok (.aload_n 0, 1) := by decide +kernel
theorem dX10_song_23 : decode cX10_song 23 = .ok (.getfield 16, 3) := by decide +kernel
theorem dX10_song_26 : decode cX10_song 26 = .ok (.aload_n 0, 1) := by decide +kernel
theorem dX10_song_27 : decode cX10_song 27 = .ok (.getfield 27, 3) := by decide +kernel
theorem dX10_song_30 : decode cX10_song 30 = .ok (.aload_n 0, 1) := by decide +kernel
theorem dX10_song_31 : decode cX10_song 31 = .ok (.getfield 9, 3) := by decide +kernel
theorem dX10_song_34 : decode cX10_song 34 = .ok (.iload_n 1, 1) := by decide +kernel
theorem dX10_song_35 : decode cX10_song 35 = .ok (.invokevirtual 83, 3) := by decide +kernel
theorem dX10_song_38 : decode cX10_song 38 = .ok (.aload_n 0, 1) := by decide +kernel
theorem dX10_song_39 : decode cX10_song 39 = .ok (.iconst 0, 1) := by decide +kernel
theorem dX10_song_40 : decode cX10_song 40 = .ok (.putfield 69, 3) := by decide +kernel
theorem dX10_song_43 : decode cX10_song 43 = .ok (.aload_n 0, 1) := by decide +kernel
theorem dX10_song_44 : decode cX10_song 44 = .ok (.aload_n 0, 1) := by decide +kernel
theorem dX10_song_45 : decode cX10_song 45 = .ok (.getfield 16, 3) := by decide +kernel
theorem dX10_song_48 : decode cX10_song 48 = .ok (.getfield 87, 3) := by decide +kernel
theorem dX10_song_51 : decode cX10_song 51 = .ok (.putfield 90, 3) := by decide +kernel
theorem dX10_song_54 : decode cX10_song 54 = .ok (.aload_n 0, 1) := by decide +kernel
theorem dX10_song_55 : decode cX10_song 55 = .ok (.aload_n 0, 1) := by decide +kernel
theorem dX10_song_56 : decode cX10_song 56 = .ok (.getfield 16, 3) := by decide +kernel
theorem dX10_song_59 : decode cX10_song 59 = .ok (.getfield 93, 3) := by decide +kernel
theorem dX10_song_62 : decode cX10_song 62 = .ok (.putfield 30, 3) := by decide +kernel
theorem dX10_song_65 : decode cX10_song 65 = .ok (.aload_n 0, 1) := by decide +kernel
theorem dX10_song_66 : decode cX10_song 66 = .ok (.getfield 90, 3) := by decide +kernel
theorem dX10_song_69 : decode cX10_song 69 = .ok (.ifCond .ne 25, 3) := by decide +kernel
theorem dX10_song_72 : decode cX10_song 72 = .ok (.aload_n 0, 1) := by decide +kernel
theorem dX10_song_73 : decode cX10_song 73 = .ok (.getfield 23, 3) := by decide +kernel
theorem dX10_song_76 : decode cX10_song 76 = .ok (.astore_n 2, 1) := by decide +kernel
theorem dX10_song_77 : decode cX10_song 77 = .ok (.aload_n 0, 1) := by decide +kernel
theorem dX10_song_78 : decode cX10_song 78 = .ok (.aload_n 0, 1) := by decide +kernel
theorem dX10_song_79 : decode cX10_song 79 = .ok (.getfield 27, 3) := by decide +kernel
theorem dX10_song_82 : decode cX10_song 82 = .ok (.putfield 23, 3) := by decide +kernel
theorem dX10_song_85 : decode cX10_song 85 = .ok (.aload_n 0, 1) := by decide +kernel
theorem dX10_song_86 : decode cX10_song 86 = .ok (.aload_n 2, 1) := by decide +kernel
theorem dX10_song_87 : decode cX10_song 87 = .ok (.putfield 27, 3) := by decide +kernel
theorem dX10_song_90 : decode cX10_song 90 = .ok (.aload_n 0, 1) := by decide +kernel
theorem dX10_song_91 : decode cX10_song 91 = .ok (.invokevirtual 96, 3) := by decide +kernel
theorem dX10_song_94 : decode cX10_song 94 = .ok (.aload_n 0, 1) := by decide +kernel
theorem dX10_song_95 : decode cX10_song 95 = .ok (.getfield 90, 3) := by decide +kernel
theorem dX10_song_98 : decode cX10_song 98 = .ok (.ireturn, 1) := by decide +kernel
theorem dX10_fault_0 : decode cX10_fault 0 = .ok (.iload_n 1, 1) := by decide +kernel
theorem dX10_fault_1 : decode cX10_fault 1 = .ok (.lookupswitch 37 #[(0, 27), (1, 32)], 27) := by decide +kernel
theorem dX10_fault_28 : decode cX10_fault 28 = .ok (.aload_n 0, 1) := by decide +kernel
theorem dX10_fault_29 : decode cX10_fault 29 = .ok (.getfield 90, 3) := by decide +kernel
theorem dX10_fault_32 : decode cX10_fault 32 = .ok (.ireturn, 1) := by decide +kernel
theorem dX10_fault_33 : decode cX10_fault 33 = .ok (.aload_n 0, 1) := by decide +kernel
theorem dX10_fault_34 : decode cX10_fault 34 = .ok (.getfield 30, 3) := by decide +kernel
theorem dX10_fault_37 : decode cX10_fault 37 = .ok (.ireturn, 1) := by decide +kernel
theorem dX10_fault_38 : decode cX10_fault 38 = .ok (.new 99, 3) := by decide +kernel
theorem dX10_fault_41 : decode cX10_fault 41 = .ok (.dup, 1) := by decide +kernel
theorem dX10_fault_42 : decode cX10_fault 42 = .ok (.ldc 101, 2) := by decide +kernel
theorem dX10_fault_44 : decode cX10_fault 44 = .ok (.invokespecial 103, 3) := by decide +kernel
theorem dX10_fault_47 : decode cX10_fault 47 = .ok (.athrow, 1) := by decide +kernel
theorem dX10_key_0 : decode cX10_key 0 = .ok (.iload_n 1, 1) := by decide +kernel
theorem dX10_key_1 : decode cX10_key 1 = .ok (.bipush (-7), 2) := by decide +kernel
theorem dX10_key_3 : decode cX10_key 3 = .ok (.if_icmp .lt 9, 3) := by decide +kernel
theorem dX10_key_6 : decode cX10_key 6 = .ok (.iload_n 1, 1) := by decide +kernel
theorem dX10_key_7 : decode cX10_key 7 = .ok (.bipush 7, 2) := by decide +kernel
theorem dX10_key_9 : decode cX10_key 9 = .ok (.if_icmp .le 13, 3) := by decide +kernel
theorem dX10_key_12 : decode cX10_key 12 = .ok (.new 76, 3) := by decide +kernel
theorem dX10_key_15 : decode cX10_key 15 = .ok (.dup, 1) := by decide +kernel
theorem dX10_key_16 : decode cX10_key 16 = .ok (.ldc 104, 2) := by decide +kernel
theorem dX10_key_18 : decode cX10_key 18 = .ok (.invokespecial 80, 3) := by decide +kernel
theorem dX10_key_21 : decode cX10_key 21 = .ok (.athrow, 1) := by decide +kernel
theorem dX10_key_22 : decode cX10_key 22 = .ok (.aload_n 0, 1) := by decide +kernel
theorem dX10_key_23 : decode cX10_key 23 = .ok (.getfield 106, 3) := by decide +kernel
theorem dX10_key_26 : decode cX10_key 26 = .ok (.istore_n 2, 1) := by decide +kernel
theorem dX10_key_27 : decode cX10_key 27 = .ok (.aload_n 0, 1) := by decide +kernel
theorem dX10_key_28 : decode cX10_key 28 = .ok (.iload_n 1, 1) := by decide +kernel
theorem dX10_key_29 : decode cX10_key 29 = .ok (.putfield 106, 3) := by decide +kernel
theorem dX10_key_32 : decode cX10_key 32 = .ok (.iload_n 2, 1) := by decide +kernel
theorem dX10_key_33 : decode cX10_key 33 = .ok (.ireturn, 1) := by decide +kernel
theorem dX10_move_0 : decode cX10_move 0 = .ok (.iload_n 1, 1) := by decide +kernel
theorem dX10_move_1 : decode cX10_move 1 = .ok (.bipush (-11), 2) := by decide +kernel
theorem dX10_move_3 : decode cX10_move 3 = .ok (.if_icmp .lt 9, 3) := by decide +kernel
theorem dX10_move_6 : decode cX10_move 6 = .ok (.iload_n 1, 1) := by decide +kernel
theorem dX10_move_7 : decode cX10_move 7 = .ok (.bipush 11, 2) := by decide +kernel
theorem dX10_move_9 : decode cX10_move 9 = .ok (.if_icmp .le 13, 3) := by decide +kernel
theorem dX10_move_12 : decode cX10_move 12 = .ok (.new 76, 3) := by decide +kernel
theorem dX10_move_15 : decode cX10_move 15 = .ok (.dup, 1) := by decide +kernel
theorem dX10_move_16 : decode cX10_move 16 = .ok (.ldc 109, 2) := by decide +kernel
theorem dX10_move_18 : decode cX10_move 18 = .ok (.invokespecial 80, 3) := by decide +kernel
theorem dX10_move_21 : decode cX10_move 21 = .ok (.athrow, 1) := by decide +kernel
theorem dX10_move_22 : decode cX10_move 22 = .ok (.aload_n 0, 1) := by decide +kernel
theorem dX10_move_23 : decode cX10_move 23 = .ok (.getfield 106, 3) := by decide +kernel
theorem dX10_move_26 : decode cX10_move 26 = .ok (.bipush 7, 2) := by decide +kernel
theorem dX10_move_28 : decode cX10_move 28 = .ok (.iload_n 1, 1) := by decide +kernel
theorem dX10_move_29 : decode cX10_move 29 = .ok (.imul, 1) := by decide +kernel
theorem dX10_move_30 : decode cX10_move 30 = .ok (.iadd, 1) := by decide +kernel
theorem dX10_move_31 : decode cX10_move 31 = .ok (.iconst 5, 1) := by decide +kernel
theorem dX10_move_32 : decode cX10_move 32 = .ok (.iadd, 1) := by decide +kernel
theorem dX10_move_33 : decode cX10_move 33 = .ok (.bipush 12, 2) := by decide +kernel
theorem dX10_move_35 : decode cX10_move 35 = .ok (.invokestatic 111, 3) := by decide +kernel
theorem dX10_move_38 : decode cX10_move 38 = .ok (.iconst 5, 1) := by decide +kernel
theorem dX10_move_39 : decode cX10_move 39 = .ok (.isub, 1) := by decide +kernel
theorem dX10_move_40 : decode cX10_move 40 = .ok (.istore_n 2, 1) := by decide +kernel
theorem dX10_move_41 : decode cX10_move 41 = .ok (.aload_n 0, 1) := by decide +kernel
theorem dX10_move_42 : decode cX10_move 42 = .ok (.getfield 23, 3) := by decide +kernel
theorem dX10_move_45 : decode cX10_move 45 = .ok (.iload_n 2, 1) := by decide +kernel
theorem dX10_move_46 : decode cX10_move 46 = .ok (.aload_n 0, 1) := by decide +kernel
theorem dX10_move_47 : decode cX10_move 47 = .ok (.getfield 106, 3) := by decide +kernel
theorem dX10_move_50 : decode cX10_move 50 = .ok (.isub, 1) := by decide +kernel
theorem dX10_move_51 : decode cX10_move 51 = .ok (.invokevirtual 117, 3) := by decide +kernel
theorem dX10_move_54 : decode cX10_move 54 = .ok (.aload_n 0, 1) := by decide +kernel
theorem dX10_move_55 : decode cX10_move 55 = .ok (.iload_n 2, 1) := by decide +kernel
theorem dX10_move_56 : decode cX10_move 56 = .ok (.putfield 106, 3) := by decide +kernel
theorem dX10_move_59 : decode cX10_move 59 = .ok (.aload_n 0, 1) := by decide +kernel
theorem dX10_move_60 : decode cX10_move 60 = .ok (.invokevirtual 96, 3) := by decide +kernel
theorem dX10_move_63 : decode cX10_move 63 = .ok (.iload_n 2, 1) := by decide +kernel
theorem dX10_move_64 : decode cX10_move 64 = .ok (.ireturn, 1) := by decide +kernel
theorem dX10_chord_0 : decode cX10_chord 0 = .ok (.aload_n 0, 1) := by decide +kernel
theorem dX10_chord_1 : decode cX10_chord 1 = .ok (.getfield 23, 3) := by decide +kernel
theorem dX10_chord_4 : decode cX10_chord 4 = .ok (.iload_n 1, 1) := by decide +kernel
theorem dX10_chord_5 : decode cX10_chord 5 = .ok (.invokevirtual 120, 3) := by decide +kernel
theorem dX10_chord_8 : decode cX10_chord 8 = .ok (.ifCond .ne 13, 3) := by decide +kernel
theorem dX10_chord_11 : decode cX10_chord 11 = .ok (.new 99, 3) := by decide +kernel
theorem dX10_chord_14 : decode cX10_chord 14 = .ok (.dup, 1) := by decide +kernel
theorem dX10_chord_15 : decode cX10_chord 15 = .ok (.ldc 124, 2) := by decide +kernel
theorem dX10_chord_17 : decode cX10_chord 17 = .ok (.invokespecial 103, 3) := by decide +kernel
theorem dX10_chord_20 : decode cX10_chord 20 = .ok (.athrow, 1) := by decide +kernel
theorem dX10_chord_21 : decode cX10_chord 21 = .ok (.iload_n 2, 1) := by decide +kernel
theorem dX10_chord_22 : decode cX10_chord 22 = .ok (.tableswitch 83 0 4 #[34, 44, 54, 64, 73], 34) := by decide +kernel
theorem dX10_chord_56 : decode cX10_chord 56 = .ok (.aload_n 0, 1) := by decide +kernel
theorem dX10_chord_57 : decode cX10_chord 57 = .ok (.getfield 23, 3) := by decide +kernel
theorem dX10_chord_60 : decode cX10_chord 60 = .ok (.getfield 126, 3) := by decide +kernel
theorem dX10_chord_63 : decode cX10_chord 63 = .ok (.iload_n 1, 1) := by decide +kernel
theorem dX10_chord_64 : decode cX10_chord 64 = .ok (.iaload, 1) := by decide +kernel
theorem dX10_chord_65 : decode cX10_chord 65 = .ok (.ireturn, 1) := by decide +kernel
theorem dX10_chord_66 : decode cX10_chord 66 = .ok (.aload_n 0, 1) := by decide +kernel
theorem dX10_chord_67 : decode cX10_chord 67 = .ok (.getfield 23, 3) := by decide +kernel
theorem dX10_chord_70 : decode cX10_chord 70 = .ok (.getfield 129, 3) := by decide +kernel
theorem dX10_chord_73 : decode cX10_chord 73 = .ok (.iload_n 1, 1) := by decide +kernel
theorem dX10_chord_74 : decode cX10_chord 74 = .ok (.iaload, 1) := by decide +kernel
theorem dX10_chord_75 : decode cX10_chord 75 = .ok (.ireturn, 1) := by decide +kernel
theorem dX10_chord_76 : decode cX10_chord 76 = .ok (.aload_n 0, 1) := by decide +kernel
theorem dX10_chord_77 : decode cX10_chord 77 = .ok (.getfield 23, 3) := by decide +kernel
theorem dX10_chord_80 : decode cX10_chord 80 = .ok (.getfield 132, 3) := by decide +kernel
theorem dX10_chord_83 : decode cX10_chord 83 = .ok (.iload_n 1, 1) := by decide +kernel
theorem dX10_chord_84 : decode cX10_chord 84 = .ok (.iaload, 1) := by decide +kernel
theorem dX10_chord_85 : decode cX10_chord 85 = .ok (.ireturn, 1) := by decide +kernel
theorem dX10_chord_86 : decode cX10_chord 86 = .ok (.aload_n 0, 1) := by decide +kernel
theorem dX10_chord_87 : decode cX10_chord 87 = .ok (.getfield 23, 3) := by decide +kernel
theorem dX10_chord_90 : decode cX10_chord 90 = .ok (.iload_n 1, 1) := by decide +kernel
theorem dX10_chord_91 : decode cX10_chord 91 = .ok (.invokevirtual 135, 3) := by decide +kernel
theorem dX10_chord_94 : decode cX10_chord 94 = .ok (.ireturn, 1) := by decide +kernel
theorem dX10_chord_95 : decode cX10_chord 95 = .ok (.aload_n 0, 1) := by decide +kernel
theorem dX10_chord_96 : decode cX10_chord 96 = .ok (.getfield 23, 3) := by decide +kernel
theorem dX10_chord_99 : decode cX10_chord 99 = .ok (.getfield 139, 3) := by decide +kernel
theorem dX10_chord_102 : decode cX10_chord 102 = .ok (.iload_n 1, 1) := by decide +kernel
theorem dX10_chord_103 : decode cX10_chord 103 = .ok (.iaload, 1) := by decide +kernel
theorem dX10_chord_104 : decode cX10_chord 104 = .ok (.ireturn, 1) := by decide +kernel
theorem dX10_chord_105 : decode cX10_chord 105 = .ok (.new 99, 3) := by decide +kernel
theorem dX10_chord_108 : decode cX10_chord 108 = .ok (.dup, 1) := by decide +kernel
theorem dX10_chord_109 : decode cX10_chord 109 = .ok (.ldc 142, 2) := by decide +kernel
theorem dX10_chord_111 : decode cX10_chord 111 = .ok (.invokespecial 103, 3) := by decide +kernel
theorem dX10_chord_114 : decode cX10_chord 114 = .ok (.athrow, 1) := by decide +kernel
theorem dX10_name_0 : decode cX10_name 0 = .ok (.aload_n 0, 1) := by decide +kernel
theorem dX10_name_1 : decode cX10_name 1 = .ok (.getfield 23, 3) := by decide +kernel
theorem dX10_name_4 : decode cX10_name 4 = .ok (.iload_n 1, 1) := by decide +kernel
theorem dX10_name_5 : decode cX10_name 5 = .ok (.invokevirtual 120, 3) := by decide +kernel
theorem dX10_name_8 : decode cX10_name 8 = .ok (.ifCond .ne 13, 3) := by decide +kernel
theorem dX10_name_11 : decode cX10_name 11 = .ok (.new 99, 3) := by decide +kernel
theorem dX10_name_14 : decode cX10_name 14 = .ok (.dup, 1) := by decide +kernel
theorem dX10_name_15 : decode cX10_name 15 = .ok (.ldc 124, 2) := by decide +kernel
theorem dX10_name_17 : decode cX10_name 17 = .ok (.invokespecial 103, 3) := by decide +kernel
theorem dX10_name_20 : decode cX10_name 20 = .ok (.athrow, 1) := by decide +kernel
theorem dX10_name_21 : decode cX10_name 21 = .ok (.aload_n 0, 1) := by decide +kernel
theorem dX10_name_22 : decode cX10_name 22 = .ok (.getfield 37, 3) := by decide +kernel
theorem dX10_name_25 : decode cX10_name 25 = .ok (.iconst 0, 1) := by decide +kernel
theorem dX10_name_26 : decode cX10_name 26 = .ok (.putfield 144, 3) := by decide +kernel
theorem dX10_name_29 : decode cX10_name 29 = .ok (.aload_n 0, 1) := by decide +kernel
theorem dX10_name_30 : decode cX10_name 30 = .ok (.getfield 37, 3) := by decide +kernel
theorem dX10_name_33 : decode cX10_name 33 = .ok (.aload_n 0, 1) := by decide +kernel
theorem dX10_name_34 : decode cX10_name 34 = .ok (.getfield 23, 3) := by decide +kernel
theorem dX10_name_37 : decode cX10_name 37 = .ok (.iload_n 1, 1) := by decide +kernel
theorem dX10_name_38 : decode cX10_name 38 = .ok (.invokevirtual 147, 3) := by decide +kernel
theorem dX10_name_41 : decode cX10_name 41 = .ok (.aload_n 0, 1) := by decide +kernel
theorem dX10_name_42 : decode cX10_name 42 = .ok (.getfield 37, 3) := by decide +kernel
theorem dX10_name_45 : decode cX10_name 45 = .ok (.getfield 144, 3) := by decide +kernel
theorem dX10_name_48 : decode cX10_name 48 = .ok (.ireturn, 1) := by decide +kernel
theorem dX10_write_0 : decode cX10_write 0 = .ok (.aload_n 0, 1) := by decide +kernel
theorem dX10_write_1 : decode cX10_write 1 = .ok (.getfield 37, 3) := by decide +kernel
theorem dX10_write_4 : decode cX10_write 4 = .ok (.iconst 0, 1) := by decide +kernel
theorem dX10_write_5 : decode cX10_write 5 = .ok (.putfield 144, 3) := by decide +kernel
theorem dX10_write_8 : decode cX10_write 8 = .ok (.aload_n 0, 1) := by decide +kernel
theorem dX10_write_9 : decode cX10_write 9 = .ok (.getfield 44, 3) := by decide +kernel
theorem dX10_write_12 : decode cX10_write 12 = .ok (.aload_n 0, 1) := by decide +kernel
theorem dX10_write_13 : decode cX10_write 13 = .ok (.getfield 23, 3) := by decide +kernel
theorem dX10_write_16 : decode cX10_write 16 = .ok (.aload_n 0, 1) := by decide +kernel
theorem dX10_write_17 : decode cX10_write 17 = .ok (.getfield 37, 3) := by decide +kernel
theorem dX10_write_20 : decode cX10_write 20 = .ok (.invokevirtual 151, 3) := by decide +kernel
theorem dX10_write_23 : decode cX10_write 23 = .ok (.aload_n 0, 1) := by decide +kernel
theorem dX10_write_24 : decode cX10_write 24 = .ok (.getfield 37, 3) := by decide +kernel
theorem dX10_write_27 : decode cX10_write 27 = .ok (.getfield 144, 3) := by decide +kernel
theorem dX10_write_30 : decode cX10_write 30 = .ok (.ireturn, 1) := by decide +kernel
theorem dX10_told_0 : decode cX10_told 0 = .ok (.iload_n 1, 1) := by decide +kernel
theorem dX10_told_1 : decode cX10_told 1 = .ok (.ifCond .lt 14, 3) := by decide +kernel
theorem dX10_told_4 : decode cX10_told 4 = .ok (.iload_n 1, 1) := by decide +kernel
theorem dX10_told_5 : decode cX10_told 5 = .ok (.aload_n 0, 1) := by decide +kernel
theorem dX10_told_6 : decode cX10_told 6 = .ok (.getfield 37, 3) := by decide +kernel
theorem dX10_told_9 : decode cX10_told 9 = .ok (.invokevirtual 155, 3) := by decide +kernel
theorem dX10_told_12 : decode cX10_told 12 = .ok (.if_icmp .lt 13, 3) := by decide +kernel
theorem dX10_told_15 : decode cX10_told 15 = .ok (.new 99, 3) := by decide +kernel
theorem dX10_told_18 : decode cX10_told 18 = .ok (.dup, 1) := by decide +kernel
theorem dX10_told_19 : decode cX10_told 19 = .ok (.ldc 159, 2) := by decide +kernel
theorem dX10_told_21 : decode cX10_told 21 = .ok (.invokespecial 103, 3) := by decide +kernel
theorem dX10_told_24 : decode cX10_told 24 = .ok (.athrow, 1) := by decide +kernel
