theorem dX10_told_25 : decode cX10_told 25 = .ok (.aload_n 0, 1) := by decide +kernel
theorem dX10_told_26 : decode cX10_told 26 = .ok (.getfield 37, 3) := by decide +kernel
theorem dX10_told_29 : decode cX10_told 29 = .ok (.getfield 161, 3) := by decide +kernel
theorem dX10_told_32 : decode cX10_told 32 = .ok (.iload_n 1, 1) := by decide +kernel
theorem dX10_told_33 : decode cX10_told 33 = .ok (.iaload, 1) := by decide +kernel
theorem dX10_told_34 : decode cX10_told 34 = .ok (.ireturn, 1) := by decide +kernel
theorem dX10_string_0 : decode cX10_string 0 = .ok (.iload_n 1, 1) := by decide +kernel
theorem dX10_string_1 : decode cX10_string 1 = .ok (.ifCond .lt 9, 3) := by decide +kernel
theorem dX10_string_4 : decode cX10_string 4 = .ok (.iload_n 1, 1) := by decide +kernel
theorem dX10_string_5 : decode cX10_string 5 = .ok (.bipush 60, 2) := by decide +kernel
theorem dX10_string_7 : decode cX10_string 7 = .ok (.if_icmp .le 13, 3) := by decide +kernel
theorem dX10_string_10 : decode cX10_string 10 = .ok (.new 76, 3) := by decide +kernel
theorem dX10_string_13 : decode cX10_string 13 = .ok (.dup, 1) := by decide +kernel
theorem dX10_string_14 : decode cX10_string 14 = .ok (.ldc 164, 2) := by decide +kernel
theorem dX10_string_16 : decode cX10_string 16 = .ok (.invokespecial 80, 3) := by decide +kernel
theorem dX10_string_19 : decode cX10_string 19 = .ok (.athrow, 1) := by decide +kernel
theorem dX10_string_20 : decode cX10_string 20 = .ok (.aload_n 0, 1) := by decide +kernel
theorem dX10_string_21 : decode cX10_string 21 = .ok (.getfield 51, 3) := by decide +kernel
theorem dX10_string_24 : decode cX10_string 24 = .ok (.getfield 166, 3) := by decide +kernel
theorem dX10_string_27 : decode cX10_string 27 = .ok (.bipush 6, 2) := by decide +kernel
theorem dX10_string_29 : decode cX10_string 29 = .ok (.if_icmp .lt 5, 3) := by decide +kernel
theorem dX10_string_32 : decode cX10_string 32 = .ok (.iconst (-1), 1) := by decide +kernel
theorem dX10_string_33 : decode cX10_string 33 = .ok (.ireturn, 1) := by decide +kernel
theorem dX10_string_34 : decode cX10_string 34 = .ok (.aload_n 0, 1) := by decide +kernel
theorem dX10_string_35 : decode cX10_string 35 = .ok (.getfield 51, 3) := by decide +kernel
theorem dX10_string_38 : decode cX10_string 38 = .ok (.getfield 169, 3) := by decide +kernel
theorem dX10_string_41 : decode cX10_string 41 = .ok (.aload_n 0, 1) := by decide +kernel
theorem dX10_string_42 : decode cX10_string 42 = .ok (.getfield 51, 3) := by decide +kernel
theorem dX10_string_45 : decode cX10_string 45 = .ok (.getfield 166, 3) := by decide +kernel
theorem dX10_string_48 : decode cX10_string 48 = .ok (.iload_n 1, 1) := by decide +kernel
theorem dX10_string_49 : decode cX10_string 49 = .ok (.iastore, 1) := by decide +kernel
theorem dX10_string_50 : decode cX10_string 50 = .ok (.aload_n 0, 1) := by decide +kernel
theorem dX10_string_51 : decode cX10_string 51 = .ok (.getfield 51, 3) := by decide +kernel
theorem dX10_string_54 : decode cX10_string 54 = .ok (.dup, 1) := by decide +kernel
theorem dX10_string_55 : decode cX10_string 55 = .ok (.getfield 166, 3) := by decide +kernel
theorem dX10_string_58 : decode cX10_string 58 = .ok (.iconst 1, 1) := by decide +kernel
theorem dX10_string_59 : decode cX10_string 59 = .ok (.iadd, 1) := by decide +kernel
theorem dX10_string_60 : decode cX10_string 60 = .ok (.putfield 166, 3) := by decide +kernel
theorem dX10_string_63 : decode cX10_string 63 = .ok (.aload_n 0, 1) := by decide +kernel
theorem dX10_string_64 : decode cX10_string 64 = .ok (.invokevirtual 96, 3) := by decide +kernel
theorem dX10_string_67 : decode cX10_string 67 = .ok (.aload_n 0, 1) := by decide +kernel
theorem dX10_string_68 : decode cX10_string 68 = .ok (.getfield 51, 3) := by decide +kernel
theorem dX10_string_71 : decode cX10_string 71 = .ok (.getfield 166, 3) := by decide +kernel
theorem dX10_string_74 : decode cX10_string 74 = .ok (.ireturn, 1) := by decide +kernel
theorem dX10_unstring_0 : decode cX10_unstring 0 = .ok (.aload_n 0, 1) := by decide +kernel
theorem dX10_unstring_1 : decode cX10_unstring 1 = .ok (.getfield 51, 3) := by decide +kernel
theorem dX10_unstring_4 : decode cX10_unstring 4 = .ok (.getfield 166, 3) := by decide +kernel
theorem dX10_unstring_7 : decode cX10_unstring 7 = .ok (.istore_n 1, 1) := by decide +kernel
theorem dX10_unstring_8 : decode cX10_unstring 8 = .ok (.aload_n 0, 1) := by decide +kernel
theorem dX10_unstring_9 : decode cX10_unstring 9 = .ok (.getfield 51, 3) := by decide +kernel
theorem dX10_unstring_12 : decode cX10_unstring 12 = .ok (.iconst 0, 1) := by decide +kernel
theorem dX10_unstring_13 : decode cX10_unstring 13 = .ok (.putfield 166, 3) := by decide +kernel
theorem dX10_unstring_16 : decode cX10_unstring 16 = .ok (.aload_n 0, 1) := by decide +kernel
theorem dX10_unstring_17 : decode cX10_unstring 17 = .ok (.invokevirtual 96, 3) := by decide +kernel
theorem dX10_unstring_20 : decode cX10_unstring 20 = .ok (.iload_n 1, 1) := by decide +kernel
theorem dX10_unstring_21 : decode cX10_unstring 21 = .ok (.ireturn, 1) := by decide +kernel
theorem dX10_hands_0 : decode cX10_hands 0 = .ok (.aload_n 0, 1) := by decide +kernel
theorem dX10_hands_1 : decode cX10_hands 1 = .ok (.getfield 23, 3) := by decide +kernel
theorem dX10_hands_4 : decode cX10_hands 4 = .ok (.iload_n 1, 1) := by decide +kernel
theorem dX10_hands_5 : decode cX10_hands 5 = .ok (.invokevirtual 120, 3) := by decide +kernel
theorem dX10_hands_8 : decode cX10_hands 8 = .ok (.ifCond .ne 13, 3) := by decide +kernel
theorem dX10_hands_11 : decode cX10_hands 11 = .ok (.new 99, 3) := by decide +kernel
theorem dX10_hands_14 : decode cX10_hands 14 = .ok (.dup, 1) := by decide +kernel
theorem dX10_hands_15 : decode cX10_hands 15 = .ok (.ldc 124, 2) := by decide +kernel
theorem dX10_hands_17 : decode cX10_hands 17 = .ok (.invokespecial 103, 3) := by decide +kernel
theorem dX10_hands_20 : decode cX10_hands 20 = .ok (.athrow, 1) := by decide +kernel
theorem dX10_hands_21 : decode cX10_hands 21 = .ok (.iload_n 2, 1) := by decide +kernel
theorem dX10_hands_22 : decode cX10_hands 22 = .ok (.invokestatic 172, 3) := by decide +kernel
theorem dX10_hands_25 : decode cX10_hands 25 = .ok (.ifCond .ne 13, 3) := by decide +kernel
theorem dX10_hands_28 : decode cX10_hands 28 = .ok (.new 76, 3) := by decide +kernel
theorem dX10_hands_31 : decode cX10_hands 31 = .ok (.dup, 1) := by decide +kernel
theorem dX10_hands_32 : decode cX10_hands 32 = .ok (.ldc 175, 2) := by decide +kernel
theorem dX10_hands_34 : decode cX10_hands 34 = .ok (.invokespecial 80, 3) := by decide +kernel
theorem dX10_hands_37 : decode cX10_hands 37 = .ok (.athrow, 1) := by decide +kernel
theorem dX10_hands_38 : decode cX10_hands 38 = .ok (.aload_n 0, 1) := by decide +kernel
theorem dX10_hands_39 : decode cX10_hands 39 = .ok (.getfield 58, 3) := by decide +kernel
theorem dX10_hands_42 : decode cX10_hands 42 = .ok (.getfield 177, 3) := by decide +kernel
theorem dX10_hands_45 : decode cX10_hands 45 = .ok (.aload_n 0, 1) := by decide +kernel
theorem dX10_hands_46 : decode cX10_hands 46 = .ok (.getfield 58, 3) := by decide +kernel
theorem dX10_hands_49 : decode cX10_hands 49 = .ok (.aload_n 0, 1) := by decide +kernel
theorem dX10_hands_50 : decode cX10_hands 50 = .ok (.getfield 23, 3) := by decide +kernel
theorem dX10_hands_53 : decode cX10_hands 53 = .ok (.aload_n 0, 1) := by decide +kernel
theorem dX10_hands_54 : decode cX10_hands 54 = .ok (.getfield 51, 3) := by decide +kernel
theorem dX10_hands_57 : decode cX10_hands 57 = .ok (.iload_n 1, 1) := by decide +kernel
theorem dX10_hands_58 : decode cX10_hands 58 = .ok (.iload_n 2, 1) := by decide +kernel
theorem dX10_hands_59 : decode cX10_hands 59 = .ok (.invokevirtual 180, 3) := by decide +kernel
theorem dX10_hands_62 : decode cX10_hands 62 = .ok (.iaload, 1) := by decide +kernel
theorem dX10_hands_63 : decode cX10_hands 63 = .ok (.ireturn, 1) := by decide +kernel
theorem dX10_fret_0 : decode cX10_fret 0 = .ok (.aload_n 0, 1) := by decide +kernel
theorem dX10_fret_1 : decode cX10_fret 1 = .ok (.iload_n 1, 1) := by decide +kernel
theorem dX10_fret_2 : decode cX10_fret 2 = .ok (.iload_n 2, 1) := by decide +kernel
theorem dX10_fret_3 : decode cX10_fret 3 = .ok (.invokevirtual 184, 3) := by decide +kernel
theorem dX10_fret_6 : decode cX10_fret 6 = .ok (.istore 5, 2) := by decide +kernel
theorem dX10_fret_8 : decode cX10_fret 8 = .ok (.iload_n 3, 1) := by decide +kernel
theorem dX10_fret_9 : decode cX10_fret 9 = .ok (.ifCond .lt 9, 3) := by decide +kernel
theorem dX10_fret_12 : decode cX10_fret 12 = .ok (.iload_n 3, 1) := by decide +kernel
theorem dX10_fret_13 : decode cX10_fret 13 = .ok (.iload 5, 2) := by decide +kernel
theorem dX10_fret_15 : decode cX10_fret 15 = .ok (.if_icmp .lt 13, 3) := by decide +kernel
theorem dX10_fret_18 : decode cX10_fret 18 = .ok (.new 99, 3) := by decide +kernel
theorem dX10_fret_21 : decode cX10_fret 21 = .ok (.dup, 1) := by decide +kernel
theorem dX10_fret_22 : decode cX10_fret 22 = .ok (.ldc 187, 2) := by decide +kernel
theorem dX10_fret_24 : decode cX10_fret 24 = .ok (.invokespecial 103, 3) := by decide +kernel
theorem dX10_fret_27 : decode cX10_fret 27 = .ok (.athrow, 1) := by decide +kernel
theorem dX10_fret_28 : decode cX10_fret 28 = .ok (.iload 4, 2) := by decide +kernel
theorem dX10_fret_30 : decode cX10_fret 30 = .ok (.iconst (-1), 1) := by decide +kernel
theorem dX10_fret_31 : decode cX10_fret 31 = .ok (.if_icmp .lt 15, 3) := by decide +kernel
theorem dX10_fret_34 : decode cX10_fret 34 = .ok (.iload 4, 2) := by decide +kernel
theorem dX10_fret_36 : decode cX10_fret 36 = .ok (.aload_n 0, 1) := by decide +kernel
theorem dX10_fret_37 : decode cX10_fret 37 = .ok (.getfield 51, 3) := by decide +kernel
theorem dX10_fret_40 : decode cX10_fret 40 = .ok (.getfield 166, 3) := by decide +kernel
theorem dX10_fret_43 : decode cX10_fret 43 = .ok (.if_icmp .lt 13, 3) := by decide +kernel
theorem dX10_fret_46 : decode cX10_fret 46 = .ok (.new 99, 3) := by decide +kernel
theorem dX10_fret_49 : decode cX10_fret 49 = .ok (.dup, 1) := by decide +kernel
theorem dX10_fret_50 : decode cX10_fret 50 = .ok (.ldc 189, 2) := by decide +kernel
theorem dX10_fret_52 : decode cX10_fret 52 = .ok (.invokespecial 103, 3) := by decide +kernel
theorem dX10_fret_55 : decode cX10_fret 55 = .ok (.athrow, 1) := by decide +kernel
theorem dX10_fret_56 : decode cX10_fret 56 = .ok (.aload_n 0, 1) := by decide +kernel
theorem dX10_fret_57 : decode cX10_fret 57 = .ok (.getfield 58, 3) := by decide +kernel
theorem dX10_fret_60 : decode cX10_fret 60 = .ok (.getfield 191, 3) := by decide +kernel
theorem dX10_fret_63 : decode cX10_fret 63 = .ok (.aload_n 0, 1) := by decide +kernel
theorem dX10_fret_64 : decode cX10_fret 64 = .ok (.getfield 58, 3) := by decide +kernel
theorem dX10_fret_67 : decode cX10_fret 67 = .ok (.aload_n 0, 1) := by decide +kernel
theorem dX10_fret_68 : decode cX10_fret 68 = .ok (.getfield 23, 3) := by decide +kernel
theorem dX10_fret_71 : decode cX10_fret 71 = .ok (.aload_n 0, 1) := by decide +kernel
theorem dX10_fret_72 : decode cX10_fret 72 = .ok (.getfield 51, 3) := by decide +kernel
theorem dX10_fret_75 : decode cX10_fret 75 = .ok (.iload_n 1, 1) := by decide +kernel
theorem dX10_fret_76 : decode cX10_fret 76 = .ok (.iload_n 2, 1) := by decide +kernel
theorem dX10_fret_77 : decode cX10_fret 77 = .ok (.invokevirtual 180, 3) := by decide +kernel
theorem dX10_fret_80 : decode cX10_fret 80 = .ok (.bipush 6, 2) := by decide +kernel
theorem dX10_fret_82 : decode cX10_fret 82 = .ok (.imul, 1) := by decide +kernel
theorem dX10_fret_83 : decode cX10_fret 83 = .ok (.iload_n 3, 1) := by decide +kernel
theorem dX10_fret_84 : decode cX10_fret 84 = .ok (.iadd, 1) := by decide +kernel
theorem dX10_fret_85 : decode cX10_fret 85 = .ok (.iaload, 1) := by decide +kernel
theorem dX10_fret_86 : decode cX10_fret 86 = .ok (.istore 6, 2) := by decide +kernel
theorem dX10_fret_88 : decode cX10_fret 88 = .ok (.iload 4, 2) := by decide +kernel
theorem dX10_fret_90 : decode cX10_fret 90 = .ok (.iconst (-1), 1) := by decide +kernel
theorem dX10_fret_91 : decode cX10_fret 91 = .ok (.if_icmp .ne 11, 3) := by decide +kernel
theorem dX10_fret_94 : decode cX10_fret 94 = .ok (.iload 6, 2) := by decide +kernel
theorem dX10_fret_96 : decode cX10_fret 96 = .ok (.invokestatic 194, 3) := by decide +kernel
theorem dX10_fret_99 : decode cX10_fret 99 = .ok (.goto 10, 3) := by decide +kernel
theorem dX10_fret_102 : decode cX10_fret 102 = .ok (.iload 6, 2) := by decide +kernel
theorem dX10_fret_104 : decode cX10_fret 104 = .ok (.iload 4, 2) := by decide +kernel
theorem dX10_fret_106 : decode cX10_fret 106 = .ok (.invokestatic 199, 3) := by decide +kernel
theorem dX10_fret_109 : decode cX10_fret 109 = .ok (.ireturn, 1) := by decide +kernel
theorem dX10_play_0 : decode cX10_play 0 = .ok (.iload_n 1, 1) := by decide +kernel
theorem dX10_play_1 : decode cX10_play 1 = .ok (.invokestatic 172, 3) := by decide +kernel
theorem dX10_play_4 : decode cX10_play 4 = .ok (.ifCond .ne 13, 3) := by decide +kernel
theorem dX10_play_7 : decode cX10_play 7 = .ok (.new 76, 3) := by decide +kernel
theorem dX10_play_10 : decode cX10_play 10 = .ok (.dup, 1) := by decide +kernel
theorem dX10_play_11 : decode cX10_play 11 = .ok (.ldc 175, 2) := by decide +kernel
theorem dX10_play_13 : decode cX10_play 13 = .ok (.invokespecial 80, 3) := by decide +kernel
theorem dX10_play_16 : decode cX10_play 16 = .ok (.athrow, 1) := by decide +kernel
theorem dX10_play_17 : decode cX10_play 17 = .ok (.aload_n 0, 1) := by decide +kernel
theorem dX10_play_18 : decode cX10_play 18 = .ok (.getfield 65, 3) := by decide +kernel
theorem dX10_play_21 : decode cX10_play 21 = .ok (.aload_n 0, 1) := by decide +kernel
theorem dX10_play_22 : decode cX10_play 22 = .ok (.getfield 23, 3) := by decide +kernel
theorem dX10_play_25 : decode cX10_play 25 = .ok (.aload_n 0, 1) := by decide +kernel
theorem dX10_play_26 : decode cX10_play 26 = .ok (.getfield 51, 3) := by decide +kernel
theorem dX10_play_29 : decode cX10_play 29 = .ok (.aload_n 0, 1) := by decide +kernel
theorem dX10_play_30 : decode cX10_play 30 = .ok (.getfield 58, 3) := by decide +kernel
theorem dX10_play_33 : decode cX10_play 33 = .ok (.iload_n 1, 1) := by decide +kernel
theorem dX10_play_34 : decode cX10_play 34 = .ok (.invokevirtual 202, 3) := by decide +kernel
theorem dX10_play_37 : decode cX10_play 37 = .ok (.istore_n 2, 1) := by decide +kernel
theorem dX10_play_38 : decode cX10_play 38 = .ok (.iload_n 2, 1) := by decide +kernel
theorem dX10_play_39 : decode cX10_play 39 = .ok (.iconst (-1), 1) := by decide +kernel
theorem dX10_play_40 : decode cX10_play 40 = .ok (.if_icmp .eq 18, 3) := by decide +kernel
theorem dX10_play_43 : decode cX10_play 43 = .ok (.aload_n 0, 1) := by decide +kernel
theorem dX10_play_44 : decode cX10_play 44 = .ok (.getfield 65, 3) := by decide +kernel
theorem dX10_play_47 : decode cX10_play 47 = .ok (.aload_n 0, 1) := by decide +kernel
theorem dX10_play_48 : decode cX10_play 48 = .ok (.getfield 23, 3) := by decide +kernel
theorem dX10_play_51 : decode cX10_play 51 = .ok (.getfield 206, 3) := by decide +kernel
theorem dX10_play_54 : decode cX10_play 54 = .ok (.iload_n 1, 1) := by decide +kernel
theorem dX10_play_55 : decode cX10_play 55 = .ok (.invokevirtual 209, 3) := by decide +kernel
theorem dX10_play_58 : decode cX10_play 58 = .ok (.iload_n 2, 1) := by decide +kernel
theorem dX10_play_59 : decode cX10_play 59 = .ok (.ireturn, 1) := by decide +kernel
theorem dX10_easiest_0 : decode cX10_easiest 0 = .ok (.iconst (-1), 1) := by decide +kernel
theorem dX10_easiest_1 : decode cX10_easiest 1 = .ok (.istore_n 1, 1) := by decide +kernel
theorem dX10_easiest_2 : decode cX10_easiest 2 = .ok (.iconst (-1), 1) := by decide +kernel
theorem dX10_easiest_3 : decode cX10_easiest 3 = .ok (.istore_n 2, 1) := by decide +kernel
theorem dX10_easiest_4 : decode cX10_easiest 4 = .ok (.iconst 0, 1) := by decide +kernel
theorem dX10_easiest_5 : decode cX10_easiest 5 = .ok (.istore_n 3, 1) := by decide +kernel
theorem dX10_easiest_6 : decode cX10_easiest 6 = .ok (.iload_n 3, 1) := by decide +kernel
theorem dX10_easiest_7 : decode cX10_easiest 7 = .ok (.bipush 8, 2) := by decide +kernel
theorem dX10_easiest_9 : decode cX10_easiest 9 = .ok (.if_icmp .ge 53, 3) := by decide +kernel
theorem dX10_easiest_12 : decode cX10_easiest 12 = .ok (.aload_n 0, 1) := by decide +kernel
theorem dX10_easiest_13 : decode cX10_easiest 13 = .ok (.getfield 65, 3) := by decide +kernel
theorem dX10_easiest_16 : decode cX10_easiest 16 = .ok (.aload_n 0, 1) := by decide +kernel
theorem dX10_easiest_17 : decode cX10_easiest 17 = .ok (.getfield 23, 3) := by decide +kernel
theorem dX10_easiest_20 : decode cX10_easiest 20 = .ok (.aload_n 0, 1) := by decide +kernel
theorem dX10_easiest_21 : decode cX10_easiest 21 = .ok (.getfield 51, 3) := by decide +kernel
theorem dX10_easiest_24 : decode cX10_easiest 24 = .ok (.aload_n 0, 1) := by decide +kernel
theorem dX10_easiest_25 : decode cX10_easiest 25 = .ok (.getfield 58, 3) := by decide +kernel
theorem dX10_easiest_28 : decode cX10_easiest 28 = .ok (.iload_n 3, 1) := by decide +kernel
theorem dX10_easiest_29 : decode cX10_easiest 29 = .ok (.invokevirtual 202, 3) := by decide +kernel
theorem dX10_easiest_32 : decode cX10_easiest 32 = .ok (.istore 4, 2) := by decide +kernel
theorem dX10_easiest_34 : decode cX10_easiest 34 = .ok (.iload 4, 2) := by decide +kernel
theorem dX10_easiest_36 : decode cX10_easiest 36 = .ok (.iconst (-1), 1) := by decide +kernel
theorem dX10_easiest_37 : decode cX10_easiest 37 = .ok (.if_icmp .eq 19, 3) := by decide +kernel
theorem dX10_easiest_40 : decode cX10_easiest 40 = .ok (.iload_n 1, 1) := by decide +kernel
theorem dX10_easiest_41 : decode cX10_easiest 41 = .ok (.iconst (-1), 1) := by decide +kernel
theorem dX10_easiest_42 : decode cX10_easiest 42 = .ok (.if_icmp .eq 9, 3) := by decide +kernel
theorem dX10_easiest_45 : decode cX10_easiest 45 = .ok (.iload 4, 2) := by decide +kernel
theorem dX10_easiest_47 : decode cX10_easiest 47 = .ok (.iload_n 2, 1) := by decide +kernel
theorem dX10_easiest_48 : decode cX10_easiest 48 = .ok (.if_icmp .ge 8, 3) := by decide +kernel
theorem dX10_easiest_51 : decode cX10_easiest 51 = .ok (.iload_n 3, 1) := by decide +kernel
theorem dX10_easiest_52 : decode cX10_easiest 52 = .ok (.istore_n 1, 1) := by decide +kernel
theorem dX10_easiest_53 : decode cX10_easiest 53 = .ok (.iload 4, 2) := by decide +kernel
theorem dX10_easiest_55 : decode cX10_easiest 55 = .ok (.istore_n 2, 1) := by decide +kernel
theorem dX10_easiest_56 : decode cX10_easiest 56 = .ok (.iinc 3 1, 3) := by decide +kernel
theorem dX10_easiest_59 : decode cX10_easiest 59 = .ok (.goto (-53), 3) := by decide +kernel
theorem dX10_easiest_62 : decode cX10_easiest 62 = .ok (.iload_n 1, 1) := by decide +kernel
theorem dX10_easiest_63 : decode cX10_easiest 63 = .ok (.iconst (-1), 1) := by decide +kernel
theorem dX10_easiest_64 : decode cX10_easiest 64 = .ok (.if_icmp .eq 39, 3) := by decide +kernel
theorem dX10_easiest_67 : decode cX10_easiest 67 = .ok (.aload_n 0, 1) := by decide +kernel
theorem dX10_easiest_68 : decode cX10_easiest 68 = .ok (.getfield 65, 3) := by decide +kernel
theorem dX10_easiest_71 : decode cX10_easiest 71 = .ok (.aload_n 0, 1) := by decide +kernel
theorem dX10_easiest_72 : decode cX10_easiest 72 = .ok (.getfield 23, 3) := by decide +kernel
theorem dX10_easiest_75 : decode cX10_easiest 75 = .ok (.aload_n 0, 1) := by decide +kernel
theorem dX10_easiest_76 : decode cX10_easiest 76 = .ok (.getfield 51, 3) := by decide +kernel
theorem dX10_easiest_79 : decode cX10_easiest 79 = .ok (.aload_n 0, 1) := by decide +kernel
theorem dX10_easiest_80 : decode cX10_easiest 80 = .ok (.getfield 58, 3) := by decide +kernel
theorem dX10_easiest_83 : decode cX10_easiest 83 = .ok (.iload_n 1, 1) := by decide +kernel
theorem dX10_easiest_84 : decode cX10_easiest 84 = .ok (.invokevirtual 202, 3) := by decide +kernel
theorem dX10_easiest_87 : decode cX10_easiest 87 = .ok (.pop, 1) := by decide +kernel
theorem dX10_easiest_88 : decode cX10_easiest 88 = .ok (.aload_n 0, 1) := by decide +kernel
theorem dX10_easiest_89 : decode cX10_easiest 89 = .ok (.getfield 65, 3) := by decide +kernel
theorem dX10_easiest_92 : decode cX10_easiest 92 = .ok (.aload_n 0, 1) := by decide +kernel
theorem dX10_easiest_93 : decode cX10_easiest 93 = .ok (.getfield 23, 3) := by decide +kernel
theorem dX10_easiest_96 : decode cX10_easiest 96 = .ok (.getfield 206, 3) := by decide +kernel
theorem dX10_easiest_99 : decode cX10_easiest 99 = .ok (.iload_n 1, 1) := by decide +kernel
theorem dX10_easiest_100 : decode cX10_easiest 100 = .ok (.invokevirtual 209, 3) := by decide +kernel
theorem dX10_easiest_103 : decode cX10_easiest 103 = .ok (.iload_n 1, 1) := by decide +kernel
theorem dX10_easiest_104 : decode cX10_easiest 104 = .ok (.ireturn, 1) := by decide +kernel
theorem dX10_played_0 : decode cX10_played 0 = .ok (.aload_n 0, 1) := by decide +kernel
theorem dX10_played_1 : decode cX10_played 1 = .ok (.getfield 65, 3) := by decide +kernel
theorem dX10_played_4 : decode cX10_played 4 = .ok (.getfield 213, 3) := by decide +kernel
theorem dX10_played_7 : decode cX10_played 7 = .ok (.iconst (-1), 1) := by decide +kernel
theorem dX10_played_8 : decode cX10_played 8 = .ok (.if_icmp .eq 8, 3) := by decide +kernel
theorem dX10_played_11 : decode cX10_played 11 = .ok (.iload_n 1, 1) := by decide +kernel
theorem dX10_played_12 : decode cX10_played 12 = .ok (.iconst (-1), 1) := by decide +kernel
theorem dX10_played_13 : decode cX10_played 13 = .ok (.if_icmp .ne 11, 3) := by decide +kernel
theorem dX10_played_16 : decode cX10_played 16 = .ok (.aload_n 0, 1) := by decide +kernel
theorem dX10_played_17 : decode cX10_played 17 = .ok (.getfield 65, 3) := by decide +kernel
theorem dX10_played_20 : decode cX10_played 20 = .ok (.getfield 213, 3) := by decide +kernel
theorem dX10_played_23 : decode cX10_played 23 = .ok (.ireturn, 1) := by decide +kernel
theorem dX10_played_24 : decode cX10_played 24 = .ok (.aload_n 0, 1) := by decide +kernel
theorem dX10_played_25 : decode cX10_played 25 = .ok (.getfield 23, 3) := by decide +kernel
theorem dX10_played_28 : decode cX10_played 28 = .ok (.iload_n 1, 1) := by decide +kernel
theorem dX10_played_29 : decode cX10_played 29 = .ok (.invokevirtual 120, 3) := by decide +kernel
theorem dX10_played_32 : decode cX10_played 32 = .ok (.ifCond .eq 15, 3) := by decide +kernel
theorem dX10_played_35 : decode cX10_played 35 = .ok (.aload_n 0, 1) := by decide +kernel
theorem dX10_played_36 : decode cX10_played 36 = .ok (.getfield 65, 3) := by decide +kernel
theorem dX10_played_39 : decode cX10_played 39 = .ok (.getfield 216, 3) := by decide +kernel
theorem dX10_played_42 : decode cX10_played 42 = .ok (.iload_n 1, 1) := by decide +kernel
theorem dX10_played_43 : decode cX10_played 43 = .ok (.iaload, 1) := by decide +kernel
theorem dX10_played_44 : decode cX10_played 44 = .ok (.goto 4, 3) := by decide +kernel
theorem dX10_played_47 : decode cX10_played 47 = .ok (.iconst (-1), 1) := by decide +kernel
theorem dX10_played_48 : decode cX10_played 48 = .ok (.ireturn, 1) := by decide +kernel
theorem dX10_guess_0 : decode cX10_guess 0 = .ok (.bipush (-100), 2) := by decide +kernel
theorem dX10_guess_2 : decode cX10_guess 2 = .ok (.istore_n 1, 1) := by decide +kernel
theorem dX10_guess_3 : decode cX10_guess 3 = .ok (.iconst (-1), 1) := by decide +kernel
theorem dX10_guess_4 : decode cX10_guess 4 = .ok (.istore_n 2, 1) := by decide +kernel
theorem dX10_guess_5 : decode cX10_guess 5 = .ok (.bipush (-6), 2) := by decide +kernel
theorem dX10_guess_7 : decode cX10_guess 7 = .ok (.istore_n 3, 1) := by decide +kernel
theorem dX10_guess_8 : decode cX10_guess 8 = .ok (.iload_n 3, 1) := by decide +kernel
theorem dX10_guess_9 : decode cX10_guess 9 = .ok (.bipush 6, 2) := by decide +kernel
theorem dX10_guess_11 : decode cX10_guess 11 = .ok (.if_icmp .gt 45, 3) := by decide +kernel
theorem dX10_guess_14 : decode cX10_guess 14 = .ok (.aload_n 0, 1) := by decide +kernel
theorem dX10_guess_15 : decode cX10_guess 15 = .ok (.getfield 23, 3) := by decide +kernel
theorem dX10_guess_18 : decode cX10_guess 18 = .ok (.iload_n 3, 1) := by decide +kernel
theorem dX10_guess_19 : decode cX10_guess 19 = .ok (.invokestatic 217, 3) := by decide +kernel
theorem dX10_guess_22 : decode cX10_guess 22 = .ok (.invokevirtual 222, 3) := by decide +kernel
theorem dX10_guess_25 : decode cX10_guess 25 = .ok (.istore 4, 2) := by decide +kernel
theorem dX10_guess_27 : decode cX10_guess 27 = .ok (.iload 4, 2) := by decide +kernel
theorem dX10_guess_29 : decode cX10_guess 29 = .ok (.iload_n 2, 1) := by decide +kernel
theorem dX10_guess_30 : decode cX10_guess 30 = .ok (.if_icmp .le 11, 3) := by decide +kernel
theorem dX10_guess_33 : decode cX10_guess 33 = .ok (.iload 4, 2) := by decide +kernel
theorem dX10_guess_35 : decode cX10_guess 35 = .ok (.istore_n 2, 1) := by decide +kernel
theorem dX10_guess_36 : decode cX10_guess 36 = .ok (.iload_n 3, 1) := by decide +kernel
theorem dX10_guess_37 : decode cX10_guess 37 = .ok (.istore_n 1, 1) := by decide +kernel
theorem dX10_guess_38 : decode cX10_guess 38 = .ok (.goto 12, 3) := by decide +kernel
theorem dX10_guess_41 : decode cX10_guess 41 = .ok (.iload 4, 2) := by decide +kernel
theorem dX10_guess_43 : decode cX10_guess 43 = .ok (.iload_n 2, 1) := by decide +kernel
theorem dX10_guess_44 : decode cX10_guess 44 = .ok (.if_icmp .ne 6, 3) := by decide +kernel
theorem dX10_guess_47 : decode cX10_guess 47 = .ok (.bipush (-100), 2) := by decide +kernel
theorem dX10_guess_49 : decode cX10_guess 49 = .ok (.istore_n 1, 1) := by decide +kernel
theorem dX10_guess_50 : decode cX10_guess 50 = .ok (.iinc 3 1, 3) := by decide +kernel
theorem dX10_guess_53 : decode cX10_guess 53 = .ok (.goto (-45), 3) := by decide +kernel
theorem dX10_guess_56 : decode cX10_guess 56 = .ok (.iload_n 1, 1) := by decide +kernel
theorem dX10_guess_57 : decode cX10_guess 57 = .ok (.ireturn, 1) := by decide +kernel
theorem dX10_count_0 : decode cX10_count 0 = .ok (.iload_n 1, 1) := by decide +kernel
theorem dX10_count_1 : decode cX10_count 1 = .ok (.tableswitch 81 0 5 #[39, 47, 55, 60, 68, 76], 39) := by decide +kernel
theorem dX10_count_40 : decode cX10_count 40 = .ok (.aload_n 0, 1) := by decide +kernel
theorem dX10_count_41 : decode cX10_count 41 = .ok (.getfield 23, 3) := by decide +kernel
theorem dX10_count_44 : decode cX10_count 44 = .ok (.getfield 206, 3) := by decide +kernel
theorem dX10_count_47 : decode cX10_count 47 = .ok (.ireturn, 1) := by decide +kernel
theorem dX10_count_48 : decode cX10_count 48 = .ok (.aload_n 0, 1) := by decide +kernel
theorem dX10_count_49 : decode cX10_count 49 = .ok (.getfield 23, 3) := by decide +kernel
theorem dX10_count_52 : decode cX10_count 52 = .ok (.getfield 225, 3) := by decide +kernel
theorem dX10_count_55 : decode cX10_count 55 = .ok (.ireturn, 1) := by decide +kernel
theorem dX10_count_56 : decode cX10_count 56 = .ok (.aload_n 0, 1) := by decide +kernel
theorem dX10_count_57 : decode cX10_count 57 = .ok (.getfield 106, 3) := by decide +kernel
theorem dX10_count_60 : decode cX10_count 60 = .ok (.ireturn, 1) := by decide +kernel
theorem dX10_count_61 : decode cX10_count 61 = .ok (.aload_n 0, 1) := by decide +kernel
theorem dX10_count_62 : decode cX10_count 62 = .ok (.getfield 51, 3) := by decide +kernel
theorem dX10_count_65 : decode cX10_count 65 = .ok (.getfield 166, 3) := by decide +kernel
theorem dX10_count_68 : decode cX10_count 68 = .ok (.ireturn, 1) := by decide +kernel
theorem dX10_count_69 : decode cX10_count 69 = .ok (.aload_n 0, 1) := by decide +kernel
theorem dX10_count_70 : decode cX10_count 70 = .ok (.getfield 37, 3) := by decide +kernel
theorem dX10_count_73 : decode cX10_count 73 = .ok (.invokevirtual 155, 3) := by decide +kernel
theorem dX10_count_76 : decode cX10_count 76 = .ok (.ireturn, 1) := by decide +kernel
theorem dX10_count_77 : decode cX10_count 77 = .ok (.aload_n 0, 1) := by decide +kernel
theorem dX10_count_78 : decode cX10_count 78 = .ok (.getfield 69, 3) := by decide +kernel
theorem dX10_count_81 : decode cX10_count 81 = .ok (.ireturn, 1) := by decide +kernel
theorem dX10_count_82 : decode cX10_count 82 = .ok (.new 99, 3) := by decide +kernel
theorem dX10_count_85 : decode cX10_count 85 = .ok (.dup, 1) := by decide +kernel
theorem dX10_count_86 : decode cX10_count 86 = .ok (.ldc 228, 2) := by decide +kernel
theorem dX10_count_88 : decode cX10_count 88 = .ok (.invokespecial 103, 3) := by decide +kernel
theorem dX10_count_91 : decode cX10_count 91 = .ok (.athrow, 1) := by decide +kernel
theorem dX10_takeFour_0 : decode cX10_takeFour 0 = .ok (.bipush 24, 2) := by decide +kernel
theorem dX10_takeFour_2 : decode cX10_takeFour 2 = .ok (.istore_n 2, 1) := by decide +kernel
theorem dX10_takeFour_3 : decode cX10_takeFour 3 = .ok (.iload_n 2, 1) := by decide +kernel
theorem dX10_takeFour_4 : decode cX10_takeFour 4 = .ok (.ifCond .lt 45, 3) := by decide +kernel
theorem dX10_takeFour_7 : decode cX10_takeFour 7 = .ok (.aload_n 0, 1) := by decide +kernel
theorem dX10_takeFour_8 : decode cX10_takeFour 8 = .ok (.getfield 69, 3) := by decide +kernel
theorem dX10_takeFour_11 : decode cX10_takeFour 11 = .ok (.sipush 1200, 3) := by decide +kernel
theorem dX10_takeFour_14 : decode cX10_takeFour 14 = .ok (.if_icmp .ge 35, 3) := by decide +kernel
theorem dX10_takeFour_17 : decode cX10_takeFour 17 = .ok (.aload_n 0, 1) := by decide +kernel
theorem dX10_takeFour_18 : decode cX10_takeFour 18 = .ok (.getfield 9, 3) := by decide +kernel
theorem dX10_takeFour_21 : decode cX10_takeFour 21 = .ok (.aload_n 0, 1) := by decide +kernel
theorem dX10_takeFour_22 : decode cX10_takeFour 22 = .ok (.getfield 69, 3) := by decide +kernel
theorem dX10_takeFour_25 : decode cX10_takeFour 25 = .ok (.iload_n 1, 1) := by decide +kernel
theorem dX10_takeFour_26 : decode cX10_takeFour 26 = .ok (.iload_n 2, 1) := by decide +kernel
theorem dX10_takeFour_27 : decode cX10_takeFour 27 = .ok (.ishr, 1) := by decide +kernel
theorem dX10_takeFour_28 : decode cX10_takeFour 28 = .ok (.sipush 255, 3) := by decide +kernel
theorem dX10_takeFour_31 : decode cX10_takeFour 31 = .ok (.iand, 1) := by decide +kernel
theorem dX10_takeFour_32 : decode cX10_takeFour 32 = .ok (.iastore, 1) := by decide +kernel
theorem dX10_takeFour_33 : decode cX10_takeFour 33 = .ok (.aload_n 0, 1) := by decide +kernel
theorem dX10_takeFour_34 : decode cX10_takeFour 34 = .ok (.dup, 1) := by decide +kernel
theorem dX10_takeFour_35 : decode cX10_takeFour 35 = .ok (.getfield 69, 3) := by decide +kernel
theorem dX10_takeFour_38 : decode cX10_takeFour 38 = .ok (.iconst 1, 1) := by decide +kernel
theorem dX10_takeFour_39 : decode cX10_takeFour 39 = .ok (.iadd, 1) := by decide +kernel
theorem dX10_takeFour_40 : decode cX10_takeFour 40 = .ok (.putfield 69, 3) := by decide +kernel
theorem dX10_takeFour_43 : decode cX10_takeFour 43 = .ok (.iinc 2 (-8), 3) := by decide +kernel
theorem dX10_takeFour_46 : decode cX10_takeFour 46 = .ok (.goto (-43), 3) := by decide +kernel
theorem dX10_takeFour_49 : decode cX10_takeFour 49 = .ok (.return_, 1) := by decide +kernel
theorem dX10_forgetHands_0 : decode cX10_forgetHands 0 = .ok (.aload_n 0, 1) := by decide +kernel
theorem dX10_forgetHands_1 : decode cX10_forgetHands 1 = .ok (.getfield 58, 3) := by decide +kernel
theorem dX10_forgetHands_4 : decode cX10_forgetHands 4 = .ok (.invokevirtual 230, 3) := by decide +kernel
theorem dX10_forgetHands_7 : decode cX10_forgetHands 7 = .ok (.aload_n 0, 1) := by decide +kernel
theorem dX10_forgetHands_8 : decode cX10_forgetHands 8 = .ok (.getfield 65, 3) := by decide +kernel
theorem dX10_forgetHands_11 : decode cX10_forgetHands 11 = .ok (.iconst (-1), 1) := by decide +kernel
theorem dX10_forgetHands_12 : decode cX10_forgetHands 12 = .ok (.putfield 213, 3) := by decide +kernel
theorem dX10_forgetHands_15 : decode cX10_forgetHands 15 = .ok (.return_, 1) := by decide +kernel
theorem dX10_isBar_0 : decode cX10_isBar 0 = .ok (.iload_n 0, 1) := by decide +kernel
theorem dX10_isBar_1 : decode cX10_isBar 1 = .ok (.ifCond .lt 13, 3) := by decide +kernel
theorem dX10_isBar_4 : decode cX10_isBar 4 = .ok (.iload_n 0, 1) := by decide +kernel
theorem dX10_isBar_5 : decode cX10_isBar 5 = .ok (.bipush 8, 2) := by decide +kernel
theorem dX10_isBar_7 : decode cX10_isBar 7 = .ok (.if_icmp .ge 7, 3) := by decide +kernel
theorem dX10_isBar_10 : decode cX10_isBar 10 = .ok (.iconst 1, 1) := by decide +kernel
theorem dX10_isBar_11 : decode cX10_isBar 11 = .ok (.goto 4, 3) := by decide +kernel
theorem dX10_isBar_14 : decode cX10_isBar 14 = .ok (.iconst 0, 1) := by decide +kernel
theorem dX10_isBar_15 : decode cX10_isBar 15 = .ok (.ireturn, 1) := by decide +kernel
theorem dX11_init_0 : decode cX11_init 0 = .ok (.aload_n 0, 1) := by decide +kernel
theorem dX11_init_1 : decode cX11_init 1 = .ok (.invokespecial 1, 3) := by decide +kernel
theorem dX11_init_4 : decode cX11_init 4 = .ok (.aload_n 0, 1) := by decide +kernel
theorem dX11_init_5 : decode cX11_init 5 = .ok (.sipush 1200, 3) := by decide +kernel
theorem dX11_init_8 : decode cX11_init 8 = .ok (.newarray .int, 2) := by decide +kernel
theorem dX11_init_10 : decode cX11_init 10 = .ok (.putfield 7, 3) := by decide +kernel
theorem dX11_init_13 : decode cX11_init 13 = .ok (.aload_n 0, 1) := by decide +kernel
theorem dX11_init_14 : decode cX11_init 14 = .ok (.iconst (-1), 1) := by decide +kernel
theorem dX11_init_15 : decode cX11_init 15 = .ok (.putfield 13, 3) := by decide +kernel
theorem dX11_init_18 : decode cX11_init 18 = .ok (.aload_n 0, 1) := by decide +kernel
theorem dX11_init_19 : decode cX11_init 19 = .ok (.iconst (-1), 1) := by decide +kernel
theorem dX11_init_20 : decode cX11_init 20 = .ok (.putfield 17, 3) := by decide +kernel
theorem dX11_init_23 : decode cX11_init 23 = .ok (.aload_n 0, 1) := by decide +kernel
theorem dX11_init_24 : decode cX11_init 24 = .ok (.bipush 61, 2) := by decide +kernel
theorem dX11_init_26 : decode cX11_init 26 = .ok (.newarray .int, 2) := by decide +kernel
theorem dX11_init_28 : decode cX11_init 28 = .ok (.putfield 20, 3) := by decide +kernel
theorem dX11_init_31 : decode cX11_init 31 = .ok (.aload_n 0, 1) := by decide +kernel
theorem dX11_init_32 : decode cX11_init 32 = .ok (.bipush 61, 2) := by decide +kernel
theorem dX11_init_34 : decode cX11_init 34 = .ok (.newarray .int, 2) := by decide +kernel
theorem dX11_init_36 : decode cX11_init 36 = .ok (.putfield 23, 3) := by decide +kernel
theorem dX11_init_39 : decode cX11_init 39 = .ok (.aload_n 0, 1) := by decide +kernel
theorem dX11_init_40 : decode cX11_init 40 = .ok (.bipush 61, 2) := by decide +kernel
theorem dX11_init_42 : decode cX11_init 42 = .ok (.newarray .int, 2) := by decide +kernel
theorem dX11_init_44 : decode cX11_init 44 = .ok (.putfield 26, 3) := by decide +kernel
theorem dX11_init_47 : decode cX11_init 47 = .ok (.aload_n 0, 1) := by decide +kernel
theorem dX11_init_48 : decode cX11_init 48 = .ok (.bipush 61, 2) := by decide +kernel
theorem dX11_init_50 : decode cX11_init 50 = .ok (.newarray .int, 2) := by decide +kernel
theorem dX11_init_52 : decode cX11_init 52 = .ok (.putfield 29, 3) := by decide +kernel
theorem dX11_init_55 : decode cX11_init 55 = .ok (.aload_n 0, 1) := by decide +kernel
theorem dX11_init_56 : decode cX11_init 56 = .ok (.bipush 61, 2) := by decide +kernel
theorem dX11_init_58 : decode cX11_init 58 = .ok (.newarray .int, 2) := by decide +kernel
theorem dX11_init_60 : decode cX11_init 60 = .ok (.putfield 32, 3) := by decide +kernel
theorem dX11_init_63 : decode cX11_init 63 = .ok (.aload_n 0, 1) := by decide +kernel
theorem dX11_init_64 : decode cX11_init 64 = .ok (.bipush 61, 2) := by decide +kernel
theorem dX11_init_66 : decode cX11_init 66 = .ok (.newarray .int, 2) := by decide +kernel
theorem dX11_init_68 : decode cX11_init 68 = .ok (.putfield 35, 3) := by decide +kernel
theorem dX11_init_71 : decode cX11_init 71 = .ok (.aload_n 0, 1) := by decide +kernel
theorem dX11_init_72 : decode cX11_init 72 = .ok (.bipush 61, 2) := by decide +kernel
theorem dX11_init_74 : decode cX11_init 74 = .ok (.newarray .int, 2) := by decide +kernel
theorem dX11_init_76 : decode cX11_init 76 = .ok (.putfield 38, 3) := by decide +kernel
theorem dX11_init_79 : decode cX11_init 79 = .ok (.aload_n 0, 1) := by decide +kernel
theorem dX11_init_80 : decode cX11_init 80 = .ok (.bipush 61, 2) := by decide +kernel
theorem dX11_init_82 : decode cX11_init 82 = .ok (.newarray .int, 2) := by decide +kernel
theorem dX11_init_84 : decode cX11_init 84 = .ok (.putfield 41, 3) := by decide +kernel
theorem dX11_init_87 : decode cX11_init 87 = .ok (.aload_n 0, 1) := by decide +kernel
theorem dX11_init_88 : decode cX11_init 88 = .ok (.sipush 1200, 3) := by decide +kernel
theorem dX11_init_91 : decode cX11_init 91 = .ok (.newarray .int, 2) := by decide +kernel
theorem dX11_init_93 : decode cX11_init 93 = .ok (.putfield 44, 3) := by decide +kernel
theorem dX11_init_96 : decode cX11_init 96 = .ok (.aload_n 0, 1) := by decide +kernel
theorem dX11_init_97 : decode cX11_init 97 = .ok (.sipush 1200, 3) := by decide +kernel
theorem dX11_init_100 : decode cX11_init 100 = .ok (.newarray .int, 2) := by decide +kernel
theorem dX11_init_102 : decode cX11_init 102 = .ok (.putfield 47, 3) := by decide +kernel
theorem dX11_init_105 : decode cX11_init 105 = .ok (.aload_n 0, 1) := by decide +kernel
theorem dX11_init_106 : decode cX11_init 106 = .ok (.bipush 6, 2) := by decide +kernel
theorem dX11_init_108 : decode cX11_init 108 = .ok (.newarray .int, 2) := by decide +kernel
theorem dX11_init_110 : decode cX11_init 110 = .ok (.putfield 50, 3) := by decide +kernel
theorem dX11_init_113 : decode cX11_init 113 = .ok (.aload_n 0, 1) := by decide +kernel
theorem dX11_init_114 : decode cX11_init 114 = .ok (.bipush 60, 2) := by decide +kernel
theorem dX11_init_116 : decode cX11_init 116 = .ok (.newarray .int, 2) := by decide +kernel
theorem dX11_init_118 : decode cX11_init 118 = .ok (.putfield 53, 3) := by decide +kernel
theorem dX11_init_121 : decode cX11_init 121 = .ok (.aload_n 0, 1) := by decide +kernel
theorem dX11_init_122 : decode cX11_init 122 = .ok (.sipush 4000, 3) := by decide +kernel
theorem dX11_init_125 : decode cX11_init 125 = .ok (.newarray .int, 2) := by decide +kernel
theorem dX11_init_127 : decode cX11_init 127 = .ok (.putfield 56, 3) := by decide +kernel
theorem dX11_init_130 : decode cX11_init 130 = .ok (.aload_n 0, 1) := by decide +kernel
theorem dX11_init_131 : decode cX11_init 131 = .ok (.bipush 16, 2) := by decide +kernel
theorem dX11_init_133 : decode cX11_init 133 = .ok (.newarray .int, 2) := by decide +kernel
theorem dX11_init_135 : decode cX11_init 135 = .ok (.putfield 59, 3) := by decide +kernel
theorem dX11_init_138 : decode cX11_init 138 = .ok (.aload_n 0, 1) := by decide +kernel
theorem dX11_init_139 : decode cX11_init 139 = .ok (.sipush 4000, 3) := by decide +kernel
theorem dX11_init_142 : decode cX11_init 142 = .ok (.newarray .int, 2) := by decide +kernel
theorem dX11_init_144 : decode cX11_init 144 = .ok (.putfield 62, 3) := by decide +kernel
theorem dX11_init_147 : decode cX11_init 147 = .ok (.aload_n 0, 1) := by decide +kernel
theorem dX11_init_148 : decode cX11_init 148 = .ok (.sipush 4000, 3) := by decide +kernel
theorem dX11_init_151 : decode cX11_init 151 = .ok (.newarray .int, 2) := by decide +kernel
theorem dX11_init_153 : decode cX11_init 153 = .ok (.putfield 65, 3) := by decide +kernel
theorem dX11_init_156 : decode cX11_init 156 = .ok (.aload_n 0, 1) := by decide +kernel
theorem dX11_init_157 : decode cX11_init 157 = .ok (.sipush 480, 3) := by decide +kernel
theorem dX11_init_160 : decode cX11_init 160 = .ok (.newarray .int, 2) := by decide +kernel
theorem dX11_init_162 : decode cX11_init 162 = .ok (.putfield 68, 3) := by decide +kernel
theorem dX11_init_165 : decode cX11_init 165 = .ok (.aload_n 0, 1) := by decide +kernel
theorem dX11_init_166 : decode cX11_init 166 = .ok (.sipush 17280, 3) := by decide +kernel
theorem dX11_init_169 : decode cX11_init 169 = .ok (.newarray .int, 2) := by decide +kernel
theorem dX11_init_171 : decode cX11_init 171 = .ok (.putfield 71, 3) := by decide +kernel
theorem dX11_init_174 : decode cX11_init 174 = .ok (.aload_n 0, 1) := by decide +kernel
theorem dX11_init_175 : decode cX11_init 175 = .ok (.sipush 2880, 3) := by decide +kernel
theorem dX11_init_178 : decode cX11_init 178 = .ok (.newarray .int, 2) := by decide +kernel
theorem dX11_init_180 : decode cX11_init 180 = .ok (.putfield 74, 3) := by decide +kernel
theorem dX11_init_183 : decode cX11_init 183 = .ok (.aload_n 0, 1) := by decide +kernel
theorem dX11_init_184 : decode cX11_init 184 = .ok (.bipush 6, 2) := by decide +kernel
theorem dX11_init_186 : decode cX11_init 186 = .ok (.newarray .int, 2) := by decide +kernel
theorem dX11_init_188 : decode cX11_init 188 = .ok (.putfield 77, 3) := by decide +kernel
theorem dX11_init_191 : decode cX11_init 191 = .ok (.aload_n 0, 1) := by decide +kernel
theorem dX11_init_192 : decode cX11_init 192 = .ok (.bipush 7, 2) := by decide +kernel
theorem dX11_init_194 : decode cX11_init 194 = .ok (.newarray .int, 2) := by decide +kernel
theorem dX11_init_196 : decode cX11_init 196 = .ok (.putfield 80, 3) := by decide +kernel
theorem dX11_init_199 : decode cX11_init 199 = .ok (.aload_n 0, 1) := by decide +kernel
theorem dX11_init_200 : decode cX11_init 200 = .ok (.bipush 7, 2) := by decide +kernel
theorem dX11_init_202 : decode cX11_init 202 = .ok (.newarray .int, 2) := by decide +kernel
theorem dX11_init_204 : decode cX11_init 204 = .ok (.putfield 83, 3) := by decide +kernel
theorem dX11_init_207 : decode cX11_init 207 = .ok (.aload_n 0, 1) := by decide +kernel
theorem dX11_init_208 : decode cX11_init 208 = .ok (.sipush 360, 3) := by decide +kernel
theorem dX11_init_211 : decode cX11_init 211 = .ok (.newarray .int, 2) := by decide +kernel
theorem dX11_init_213 : decode cX11_init 213 = .ok (.putfield 86, 3) := by decide +kernel
theorem dX11_init_216 : decode cX11_init 216 = .ok (.return_, 1) := by decide +kernel
theorem dX11_thrown_0 : decode cX11_thrown 0 = .ok (.aload_n 0, 1) := by decide +kernel
theorem dX11_thrown_1 : decode cX11_thrown 1 = .ok (.getfield 89, 3) := by decide +kernel
theorem dX11_thrown_4 : decode cX11_thrown 4 = .ok (.ireturn, 1) := by decide +kernel
theorem dX11_right_0 : decode cX11_right 0 = .ok (.aload_n 0, 1) := by decide +kernel
theorem dX11_right_1 : decode cX11_right 1 = .ok (.getfield 89, 3) := by decide +kernel
theorem dX11_right_4 : decode cX11_right 4 = .ok (.ifCond .ne 12, 3) := by decide +kernel
theorem dX11_right_7 : decode cX11_right 7 = .ok (.iload_n 1, 1) := by decide +kernel
theorem dX11_right_8 : decode cX11_right 8 = .ok (.ifCond .ne 8, 3) := by decide +kernel
theorem dX11_right_11 : decode cX11_right 11 = .ok (.aload_n 0, 1) := by decide +kernel
theorem dX11_right_12 : decode cX11_right 12 = .ok (.iload_n 2, 1) := by decide +kernel
theorem dX11_right_13 : decode cX11_right 13 = .ok (.putfield 89, 3) := by decide +kernel
theorem dX11_right_16 : decode cX11_right 16 = .ok (.aload_n 0, 1) := by decide +kernel
theorem dX11_right_17 : decode cX11_right 17 = .ok (.getfield 89, 3) := by decide +kernel
theorem dX11_right_20 : decode cX11_right 20 = .ok (.ifCond .ne 7, 3) := by decide +kernel
theorem dX11_right_23 : decode cX11_right 23 = .ok (.iconst 1, 1) := by decide +kernel
theorem dX11_right_24 : decode cX11_right 24 = .ok (.goto 4, 3) := by decide +kernel
theorem dX11_right_27 : decode cX11_right 27 = .ok (.iconst 0, 1) := by decide +kernel
theorem dX11_right_28 : decode cX11_right 28 = .ok (.ireturn, 1) := by decide +kernel
theorem dX11_feed_0 : decode cX11_feed 0 = .ok (.aload_n 0, 1) := by decide +kernel
theorem dX11_feed_1 : decode cX11_feed 1 = .ok (.iconst 0, 1) := by decide +kernel
theorem dX11_feed_2 : decode cX11_feed 2 = .ok (.putfield 89, 3) := by decide +kernel
theorem dX11_feed_5 : decode cX11_feed 5 = .ok (.aload_n 0, 1) := by decide +kernel
theorem dX11_feed_6 : decode cX11_feed 6 = .ok (.getfield 92, 3) := by decide +kernel
theorem dX11_feed_9 : decode cX11_feed 9 = .ok (.bipush 20, 2) := by decide +kernel
theorem dX11_feed_11 : decode cX11_feed 11 = .ok (.iadd, 1) := by decide +kernel
theorem dX11_feed_12 : decode cX11_feed 12 = .ok (.sipush 1200, 3) := by decide +kernel
theorem dX11_feed_15 : decode cX11_feed 15 = .ok (.if_icmp .le 5, 3) := by decide +kernel
theorem dX11_feed_18 : decode cX11_feed 18 = .ok (.iconst (-1), 1) := by decide +kernel
theorem dX11_feed_19 : decode cX11_feed 19 = .ok (.ireturn, 1) := by decide +kernel
theorem dX11_feed_20 : decode cX11_feed 20 = .ok (.aload_n 0, 1) := by decide +kernel
theorem dX11_feed_21 : decode cX11_feed 21 = .ok (.iload_n 1, 1) := by decide +kernel
theorem dX11_feed_22 : decode cX11_feed 22 = .ok (.invokevirtual 95, 3) := by decide +kernel
theorem dX11_feed_25 : decode cX11_feed 25 = .ok (.aload_n 0, 1) := by decide +kernel
theorem dX11_feed_26 : decode cX11_feed 26 = .ok (.iload_n 2, 1) := by decide +kernel
theorem dX11_feed_27 : decode cX11_feed 27 = .ok (.invokevirtual 95, 3) := by decide +kernel
theorem dX11_feed_30 : decode cX11_feed 30 = .ok (.aload_n 0, 1) := by decide +kernel
theorem dX11_feed_31 : decode cX11_feed 31 = .ok (.iload_n 3, 1) := by decide +kernel
theorem dX11_feed_32 : decode cX11_feed 32 = .ok (.invokevirtual 95, 3) := by decide +kernel
theorem dX11_feed_35 : decode cX11_feed 35 = .ok (.aload_n 0, 1) := by decide +kernel
theorem dX11_feed_36 : decode cX11_feed 36 = .ok (.iload 4, 2) := by decide +kernel
theorem dX11_feed_38 : decode cX11_feed 38 = .ok (.invokevirtual 95, 3) := by decide +kernel
theorem dX11_feed_41 : decode cX11_feed 41 = .ok (.aload_n 0, 1) := by decide +kernel
theorem dX11_feed_42 : decode cX11_feed 42 = .ok (.iload 5, 2) := by decide +kernel
theorem dX11_feed_44 : decode cX11_feed 44 = .ok (.invokevirtual 95, 3) := by decide +kernel
theorem dX11_feed_47 : decode cX11_feed 47 = .ok (.aload_n 0, 1) := by decide +kernel
theorem dX11_feed_48 : decode cX11_feed 48 = .ok (.getfield 92, 3) := by decide +kernel
theorem dX11_feed_51 : decode cX11_feed 51 = .ok (.ireturn, 1) := by decide +kernel
theorem dX11_lays_0 : decode cX11_lays 0 = .ok (.bipush 24, 2) := by decide +kernel
theorem dX11_lays_2 : decode cX11_lays 2 = .ok (.istore_n 2, 1) := by decide +kernel
theorem dX11_lays_3 : decode cX11_lays 3 = .ok (.iload_n 2, 1) := by decide +kernel
theorem dX11_lays_4 : decode cX11_lays 4 = .ok (.ifCond .lt 35, 3) := by decide +kernel
theorem dX11_lays_7 : decode cX11_lays 7 = .ok (.aload_n 0, 1) := by decide +kernel
theorem dX11_lays_8 : decode cX11_lays 8 = .ok (.getfield 7, 3) := by decide +kernel
theorem dX11_lays_11 : decode cX11_lays 11 = .ok (.aload_n 0, 1) := by decide +kernel
theorem dX11_lays_12 : decode cX11_lays 12 = .ok (.getfield 92, 3) := by decide +kernel
theorem dX11_lays_15 : decode cX11_lays 15 = .ok (.iload_n 1, 1) := by decide +kernel
theorem dX11_lays_16 : decode cX11_lays 16 = .ok (.iload_n 2, 1) := by decide +kernel
theorem dX11_lays_17 : decode cX11_lays 17 = .ok (.ishr, 1) := by decide +kernel
theorem dX11_lays_18 : decode cX11_lays 18 = .ok (.sipush 255, 3) := by decide +kernel
theorem dX11_lays_21 : decode cX11_lays 21 = .ok (.iand, 1) := by decide +kernel
theorem dX11_lays_22 : decode cX11_lays 22 = .ok (.iastore, 1) := by decide +kernel
theorem dX11_lays_23 : decode cX11_lays 23 = .ok (.aload_n 0, 1) := by decide +kernel
theorem dX11_lays_24 : decode cX11_lays 24 = .ok (.dup, 1) := by decide +kernel
theorem dX11_lays_25 : decode cX11_lays 25 = .ok (.getfield 92, 3) := by decide +kernel
theorem dX11_lays_28 : decode cX11_lays 28 = .ok (.iconst 1, 1) := by decide +kernel
theorem dX11_lays_29 : decode cX11_lays 29 = .ok (.iadd, 1) := by decide +kernel
theorem dX11_lays_30 : decode cX11_lays 30 = .ok (.putfield 92, 3) := by decide +kernel
theorem dX11_lays_33 : decode cX11_lays 33 = .ok (.iinc 2 (-8), 3) := by decide +kernel
theorem dX11_lays_36 : decode cX11_lays 36 = .ok (.goto (-33), 3) := by decide +kernel
theorem dX11_lays_39 : decode cX11_lays 39 = .ok (.return_, 1) := by decide +kernel
theorem dX11_tone_0 : decode cX11_tone 0 = .ok (.bipush 7, 2) := by decide +kernel
theorem dX11_tone_2 : decode cX11_tone 2 = .ok (.iload_n 0, 1) := by decide +kernel
theorem dX11_tone_3 : decode cX11_tone 3 = .ok (.imul, 1) := by decide +kernel
theorem dX11_tone_4 : decode cX11_tone 4 = .ok (.bipush 12, 2) := by decide +kernel
theorem dX11_tone_6 : decode cX11_tone 6 = .ok (.irem, 1) := by decide +kernel
theorem dX11_tone_7 : decode cX11_tone 7 = .ok (.bipush 12, 2) := by decide +kernel
theorem dX11_tone_9 : decode cX11_tone 9 = .ok (.iadd, 1) := by decide +kernel
theorem dX11_tone_10 : decode cX11_tone 10 = .ok (.bipush 12, 2) := by decide +kernel
theorem dX11_tone_12 : decode cX11_tone 12 = .ok (.irem, 1) := by decide +kernel
theorem dX11_tone_13 : decode cX11_tone 13 = .ok (.ireturn, 1) := by decide +kernel
theorem dX11_kindOf_0 : decode cX11_kindOf 0 = .ok (.iload_n 0, 1) := by decide +kernel
theorem dX11_kindOf_1 : decode cX11_kindOf 1 = .ok (.tableswitch 106 0 12 #[67, 70, 73, 76, 79, 82, 85, 88, 91, 94, 97, 100, 103], 67) := by decide +kernel
theorem dX11_kindOf_68 : decode cX11_kindOf 68 = .ok (.ldc 99, 2) := by decide +kernel
theorem dX11_kindOf_70 : decode cX11_kindOf 70 = .ok (.areturn, 1) := by decide +kernel
theorem dX11_kindOf_71 : decode cX11_kindOf 71 = .ok (.ldc 101, 2) := by decide +kernel
theorem dX11_kindOf_73 : decode cX11_kindOf 73 = .ok (.areturn, 1) := by decide +kernel
theorem dX11_kindOf_74 : decode cX11_kindOf 74 = .ok (.ldc 103, 2) := by decide +kernel
theorem dX11_kindOf_76 : decode cX11_kindOf 76 = .ok (.areturn, 1) := by decide +kernel
theorem dX11_kindOf_77 : decode cX11_kindOf 77 = .ok (.ldc 105, 2) := by decide +kernel
theorem dX11_kindOf_79 : decode cX11_kindOf 79 = .ok (.areturn, 1) := by decide +kernel
theorem dX11_kindOf_80 : decode cX11_kindOf 80 = .ok (.ldc 107, 2) := by decide +kernel
theorem dX11_kindOf_82 : decode cX11_kindOf 82 = .ok (.areturn, 1) := by decide +kernel
theorem dX11_kindOf_83 : decode cX11_kindOf 83 = .ok (.ldc 109, 2) := by decide +kernel
theorem dX11_kindOf_85 : decode cX11_kindOf 85 = .ok (.areturn, 1) := by decide +kernel
theorem dX11_kindOf_86 : decode cX11_kindOf 86 = .ok (.ldc 111, 2) := by decide +kernel
theorem dX11_kindOf_88 : decode cX11_kindOf 88 = .ok (.areturn, 1) := by decide +kernel
theorem dX11_kindOf_89 : decode cX11_kindOf 89 = .ok (.ldc 113, 2) := by decide +kernel
theorem dX11_kindOf_91 : decode cX11_kindOf 91 = .ok (.areturn, 1) := by decide +kernel
theorem dX11_kindOf_92 : decode cX11_kindOf 92 = .ok (.ldc 115, 2) := by decide +kernel
theorem dX11_kindOf_94 : decode cX11_kindOf 94 = .ok (.areturn, 1) := by decide +kernel
theorem dX11_kindOf_95 : decode cX11_kindOf 95 = .ok (.ldc 117, 2) := by decide +kernel
theorem dX11_kindOf_97 : decode cX11_kindOf 97 = .ok (.areturn, 1) := by decide +kernel
theorem dX11_kindOf_98 : decode cX11_kindOf 98 = .ok (.ldc 119, 2) := by decide +kernel
theorem dX11_kindOf_100 : decode cX11_kindOf 100 = .ok (.areturn, 1) := by decide +kernel
theorem dX11_kindOf_101 : decode cX11_kindOf 101 = .ok (.ldc 121, 2) := by decide +kernel
theorem dX11_kindOf_103 : decode cX11_kindOf 103 = .ok (.areturn, 1) := by decide +kernel
theorem dX11_kindOf_104 : decode cX11_kindOf 104 = .ok (.ldc 123, 2) := by decide +kernel
theorem dX11_kindOf_106 : decode cX11_kindOf 106 = .ok (.areturn, 1) := by decide +kernel
theorem dX11_kindOf_107 : decode cX11_kindOf 107 = .ok (.ldc 125, 2) := by decide +kernel
theorem dX11_kindOf_109 : decode cX11_kindOf 109 = .ok (.areturn, 1) := by decide +kernel
theorem dX11_tonesOf_0 : decode cX11_tonesOf 0 = .ok (.iload_n 0, 1) := by decide +kernel
theorem dX11_tonesOf_1 : decode cX11_tonesOf 1 = .ok (.tableswitch 118 0 12 #[67, 71, 75, 79, 83, 87, 90, 94, 98, 102, 106, 110, 114], 67) := by decide +kernel
theorem dX11_tonesOf_68 : decode cX11_tonesOf 68 = .ok (.sipush 145, 3) := by decide +kernel
theorem dX11_tonesOf_71 : decode cX11_tonesOf 71 = .ok (.ireturn, 1) := by decide +kernel
theorem dX11_tonesOf_72 : decode cX11_tonesOf 72 = .ok (.sipush 137, 3) := by decide +kernel
theorem dX11_tonesOf_75 : decode cX11_tonesOf 75 = .ok (.ireturn, 1) := by decide +kernel
theorem dX11_tonesOf_76 : decode cX11_tonesOf 76 = .ok (.sipush 1169, 3) := by decide +kernel
theorem dX11_tonesOf_79 : decode cX11_tonesOf 79 = .ok (.ireturn, 1) := by decide +kernel
theorem dX11_tonesOf_80 : decode cX11_tonesOf 80 = .ok (.sipush 1161, 3) := by decide +kernel
theorem dX11_tonesOf_83 : decode cX11_tonesOf 83 = .ok (.ireturn, 1) := by decide +kernel
theorem dX11_tonesOf_84 : decode cX11_tonesOf 84 = .ok (.sipush 2193, 3) := by decide +kernel
theorem dX11_tonesOf_87 : decode cX11_tonesOf 87 = .ok (.ireturn, 1) := by decide +kernel
theorem dX11_tonesOf_88 : decode cX11_tonesOf 88 = .ok (.bipush 73, 2) := by decide +kernel
theorem dX11_tonesOf_90 : decode cX11_tonesOf 90 = .ok (.ireturn, 1) := by decide +kernel
theorem dX11_tonesOf_91 : decode cX11_tonesOf 91 = .ok (.sipush 273, 3) := by decide +kernel
theorem dX11_tonesOf_94 : decode cX11_tonesOf 94 = .ok (.ireturn, 1) := by decide +kernel
theorem dX11_tonesOf_95 : decode cX11_tonesOf 95 = .ok (.sipush 161, 3) := by decide +kernel
theorem dX11_tonesOf_98 : decode cX11_tonesOf 98 = .ok (.ireturn, 1) := by decide +kernel
theorem dX11_tonesOf_99 : decode cX11_tonesOf 99 = .ok (.sipush 133, 3) := by decide +kernel
theorem dX11_tonesOf_102 : decode cX11_tonesOf 102 = .ok (.ireturn, 1) := by decide +kernel
theorem dX11_tonesOf_103 : decode cX11_tonesOf 103 = .ok (.sipush 657, 3) := by decide +kernel
theorem dX11_tonesOf_106 : decode cX11_tonesOf 106 = .ok (.ireturn, 1) := by decide +kernel
theorem dX11_tonesOf_107 : decode cX11_tonesOf 107 = .ok (.sipush 649, 3) := by decide +kernel
theorem dX11_tonesOf_110 : decode cX11_tonesOf 110 = .ok (.ireturn, 1) := by decide +kernel
theorem dX11_tonesOf_111 : decode cX11_tonesOf 111 = .ok (.sipush 585, 3) := by decide +kernel
theorem dX11_tonesOf_114 : decode cX11_tonesOf 114 = .ok (.ireturn, 1) := by decide +kernel
theorem dX11_tonesOf_115 : decode cX11_tonesOf 115 = .ok (.sipush 1173, 3) := by decide +kernel
theorem dX11_tonesOf_118 : decode cX11_tonesOf 118 = .ok (.ireturn, 1) := by decide +kernel
theorem dX11_tonesOf_119 : decode cX11_tonesOf 119 = .ok (.sipush 149, 3) := by decide +kernel
theorem dX11_tonesOf_122 : decode cX11_tonesOf 122 = .ok (.ireturn, 1) := by decide +kernel
theorem dX11_tones_0 : decode cX11_tones 0 = .ok (.iconst 1, 1) := by decide +kernel
theorem dX11_tones_1 : decode cX11_tones 1 = .ok (.aload_n 0, 1) := by decide +kernel
theorem dX11_tones_2 : decode cX11_tones 2 = .ok (.getfield 26, 3) := by decide +kernel
theorem dX11_tones_5 : decode cX11_tones 5 = .ok (.iload_n 1, 1) := by decide +kernel
theorem dX11_tones_6 : decode cX11_tones 6 = .ok (.iaload, 1) := by decide +kernel
theorem dX11_tones_7 : decode cX11_tones 7 = .ok (.invokestatic 127, 3) := by decide +kernel
theorem dX11_tones_10 : decode cX11_tones 10 = .ok (.ishl, 1) := by decide +kernel
theorem dX11_tones_11 : decode cX11_tones 11 = .ok (.istore_n 2, 1) := by decide +kernel
theorem dX11_tones_12 : decode cX11_tones 12 = .ok (.iconst 0, 1) := by decide +kernel
theorem dX11_tones_13 : decode cX11_tones 13 = .ok (.istore_n 3, 1) := by decide +kernel
theorem dX11_tones_14 : decode cX11_tones 14 = .ok (.iload_n 3, 1) := by decide +kernel
theorem dX11_tones_15 : decode cX11_tones 15 = .ok (.bipush 12, 2) := by decide +kernel
theorem dX11_tones_17 : decode cX11_tones 17 = .ok (.if_icmp .ge 45, 3) := by decide +kernel
theorem dX11_tones_20 : decode cX11_tones 20 = .ok (.aload_n 0, 1) := by decide +kernel
theorem dX11_tones_21 : decode cX11_tones 21 = .ok (.getfield 23, 3) := by decide +kernel
theorem dX11_tones_24 : decode cX11_tones 24 = .ok (.iload_n 1, 1) := by decide +kernel
theorem dX11_tones_25 : decode cX11_tones 25 = .ok (.iaload, 1) := by decide +kernel
theorem dX11_tones_26 : decode cX11_tones 26 = .ok (.invokestatic 131, 3) := by decide +kernel
theorem dX11_tones_29 : decode cX11_tones 29 = .ok (.iload_n 3, 1) := by decide +kernel
theorem dX11_tones_30 : decode cX11_tones 30 = .ok (.ishr, 1) := by decide +kernel
theorem dX11_tones_31 : decode cX11_tones 31 = .ok (.iconst 1, 1) := by decide +kernel
theorem dX11_tones_32 : decode cX11_tones 32 = .ok (.iand, 1) := by decide +kernel
theorem dX11_tones_33 : decode cX11_tones 33 = .ok (.iconst 1, 1) := by decide +kernel
theorem dX11_tones_34 : decode cX11_tones 34 = .ok (.if_icmp .ne 22, 3) := by decide +kernel
theorem dX11_tones_37 : decode cX11_tones 37 = .ok (.iload_n 2, 1) := by decide +kernel
theorem dX11_tones_38 : decode cX11_tones 38 = .ok (.iconst 1, 1) := by decide +kernel
theorem dX11_tones_39 : decode cX11_tones 39 = .ok (.aload_n 0, 1) := by decide +kernel
theorem dX11_tones_40 : decode cX11_tones 40 = .ok (.getfield 20, 3) := by decide +kernel
theorem dX11_tones_43 : decode cX11_tones 43 = .ok (.iload_n 1, 1) := by decide +kernel
theorem dX11_tones_44 : decode cX11_tones 44 = .ok (.iaload, 1) := by decide +kernel
theorem dX11_tones_45 : decode cX11_tones 45 = .ok (.invokestatic 127, 3) := by decide +kernel
theorem dX11_tones_48 : decode cX11_tones 48 = .ok (.iload_n 3, 1) := by decide +kernel
theorem dX11_tones_49 : decode cX11_tones 49 = .ok (.iadd, 1) := by decide +kernel
theorem dX11_tones_50 : decode cX11_tones 50 = .ok (.bipush 12, 2) := by decide +kernel
theorem dX11_tones_52 : decode cX11_tones 52 = .ok (.irem, 1) := by decide +kernel
theorem dX11_tones_53 : decode cX11_tones 53 = .ok (.ishl, 1) := by decide +kernel
theorem dX11_tones_54 : decode cX11_tones 54 = .ok (.ior, 1) := by decide +kernel
theorem dX11_tones_55 : decode cX11_tones 55 = .ok (.istore_n 2, 1) := by decide +kernel
theorem dX11_tones_56 : decode cX11_tones 56 = .ok (.iinc 3 1, 3) := by decide +kernel
theorem dX11_tones_59 : decode cX11_tones 59 = .ok (.goto (-45), 3) := by decide +kernel
theorem dX11_tones_62 : decode cX11_tones 62 = .ok (.iload_n 2, 1) := by decide +kernel
theorem dX11_tones_63 : decode cX11_tones 63 = .ok (.ireturn, 1) := by decide +kernel
theorem dX11_many_0 : decode cX11_many 0 = .ok (.iconst 0, 1) := by decide +kernel
theorem dX11_many_1 : decode cX11_many 1 = .ok (.istore_n 1, 1) := by decide +kernel
theorem dX11_many_2 : decode cX11_many 2 = .ok (.iconst 0, 1) := by decide +kernel
theorem dX11_many_3 : decode cX11_many 3 = .ok (.istore_n 2, 1) := by decide +kernel
theorem dX11_many_4 : decode cX11_many 4 = .ok (.iload_n 2, 1) := by decide +kernel
theorem dX11_many_5 : decode cX11_many 5 = .ok (.bipush 12, 2) := by decide +kernel
theorem dX11_many_7 : decode cX11_many 7 = .ok (.if_icmp .ge 17, 3) := by decide +kernel
theorem dX11_many_10 : decode cX11_many 10 = .ok (.iload_n 1, 1) := by decide +kernel
theorem dX11_many_11 : decode cX11_many 11 = .ok (.iload_n 0, 1) := by decide +kernel
theorem dX11_many_12 : decode cX11_many 12 = .ok (.iload_n 2, 1) := by decide +kernel
theorem dX11_many_13 : decode cX11_many 13 = .ok (.ishr, 1) := by decide +kernel
theorem dX11_many_14 : decode cX11_many 14 = .ok (.iconst 1, 1) := by decide +kernel
theorem dX11_many_15 : decode cX11_many 15 = .ok (.iand, 1) := by decide +kernel
theorem dX11_many_16 : decode cX11_many 16 = .ok (.iadd, 1) := by decide +kernel
theorem dX11_many_17 : decode cX11_many 17 = .ok (.istore_n 1, 1) := by decide +kernel
theorem dX11_many_18 : decode cX11_many 18 = .ok (.iinc 2 1, 3) := by decide +kernel
theorem dX11_many_21 : decode cX11_many 21 = .ok (.goto (-17), 3) := by decide +kernel
theorem dX11_many_24 : decode cX11_many 24 = .ok (.iload_n 1, 1) := by decide +kernel
theorem dX11_many_25 : decode cX11_many 25 = .ok (.ireturn, 1) := by decide +kernel
theorem dX11_byteAt_0 : decode cX11_byteAt 0 = .ok (.iload_n 1, 1) := by decide +kernel
theorem dX11_byteAt_1 : decode cX11_byteAt 1 = .ok (.aload_n 0, 1) := by decide +kernel
theorem dX11_byteAt_2 : decode cX11_byteAt 2 = .ok (.getfield 134, 3) := by decide +kernel
theorem dX11_byteAt_5 : decode cX11_byteAt 5 = .ok (.if_icmp .ge 12, 3) := by decide +kernel
theorem dX11_byteAt_8 : decode cX11_byteAt 8 = .ok (.aload_n 0, 1) := by decide +kernel
theorem dX11_byteAt_9 : decode cX11_byteAt 9 = .ok (.getfield 7, 3) := by decide +kernel
theorem dX11_byteAt_12 : decode cX11_byteAt 12 = .ok (.iload_n 1, 1) := by decide +kernel
theorem dX11_byteAt_13 : decode cX11_byteAt 13 = .ok (.iaload, 1) := by decide +kernel
theorem dX11_byteAt_14 : decode cX11_byteAt 14 = .ok (.goto 4, 3) := by decide +kernel
theorem dX11_byteAt_17 : decode cX11_byteAt 17 = .ok (.iconst 0, 1) := by decide +kernel
theorem dX11_byteAt_18 : decode cX11_byteAt 18 = .ok (.ireturn, 1) := by decide +kernel
theorem dX11_placeOf_0 : decode cX11_placeOf 0 = .ok (.iload_n 0, 1) := by decide +kernel
theorem dX11_placeOf_1 : decode cX11_placeOf 1 = .ok (.tableswitch 55 65 71 #[51, 55, 45, 49, 53, 43, 47], 43) := by decide +kernel
theorem dX11_placeOf_44 : decode cX11_placeOf 44 = .ok (.iconst (-1), 1) := by decide +kernel
theorem dX11_placeOf_45 : decode cX11_placeOf 45 = .ok (.ireturn, 1) := by decide +kernel
theorem dX11_placeOf_46 : decode cX11_placeOf 46 = .ok (.iconst 0, 1) := by decide +kernel
theorem dX11_placeOf_47 : decode cX11_placeOf 47 = .ok (.ireturn, 1) := by decide +kernel
theorem dX11_placeOf_48 : decode cX11_placeOf 48 = .ok (.iconst 1, 1) := by decide +kernel
theorem dX11_placeOf_49 : decode cX11_placeOf 49 = .ok (.ireturn, 1) := by decide +kernel
theorem dX11_placeOf_50 : decode cX11_placeOf 50 = .ok (.iconst 2, 1) := by decide +kernel
theorem dX11_placeOf_51 : decode cX11_placeOf 51 = .ok (.ireturn, 1) := by decide +kernel
theorem dX11_placeOf_52 : decode cX11_placeOf 52 = .ok (.iconst 3, 1) := by decide +kernel
theorem dX11_placeOf_53 : decode cX11_placeOf 53 = .ok (.ireturn, 1) := by decide +kernel
theorem dX11_placeOf_54 : decode cX11_placeOf 54 = .ok (.iconst 4, 1) := by decide +kernel
theorem dX11_placeOf_55 : decode cX11_placeOf 55 = .ok (.ireturn, 1) := by decide +kernel
theorem dX11_placeOf_56 : decode cX11_placeOf 56 = .ok (.iconst 5, 1) := by decide +kernel
theorem dX11_placeOf_57 : decode cX11_placeOf 57 = .ok (.ireturn, 1) := by decide +kernel
theorem dX11_wrong_0 : decode cX11_wrong 0 = .ok (.aload_n 0, 1) := by decide +kernel
theorem dX11_wrong_1 : decode cX11_wrong 1 = .ok (.iload_n 1, 1) := by decide +kernel
theorem dX11_wrong_2 : decode cX11_wrong 2 = .ok (.putfield 137, 3) := by decide +kernel
theorem dX11_wrong_5 : decode cX11_wrong 5 = .ok (.aload_n 0, 1) := by decide +kernel
theorem dX11_wrong_6 : decode cX11_wrong 6 = .ok (.iload_n 2, 1) := by decide +kernel
theorem dX11_wrong_7 : decode cX11_wrong 7 = .ok (.putfield 13, 3) := by decide +kernel
theorem dX11_wrong_10 : decode cX11_wrong 10 = .ok (.iconst 0, 1) := by decide +kernel
theorem dX11_wrong_11 : decode cX11_wrong 11 = .ok (.ireturn, 1) := by decide +kernel
theorem dX11_noted_0 : decode cX11_noted 0 = .ok (.aload_n 0, 1) := by decide +kernel
theorem dX11_noted_1 : decode cX11_noted 1 = .ok (.aload_n 0, 1) := by decide +kernel
theorem dX11_noted_2 : decode cX11_noted 2 = .ok (.getfield 140, 3) := by decide +kernel
theorem dX11_noted_5 : decode cX11_noted 5 = .ok (.invokevirtual 143, 3) := by decide +kernel
theorem dX11_noted_8 : decode cX11_noted 8 = .ok (.istore_n 1, 1) := by decide +kernel
theorem dX11_noted_9 : decode cX11_noted 9 = .ok (.iload_n 1, 1) := by decide +kernel
theorem dX11_noted_10 : decode cX11_noted 10 = .ok (.bipush 65, 2) := by decide +kernel
theorem dX11_noted_12 : decode cX11_noted 12 = .ok (.if_icmp .lt 9, 3) := by decide +kernel
theorem dX11_noted_15 : decode cX11_noted 15 = .ok (.iload_n 1, 1) := by decide +kernel
theorem dX11_noted_16 : decode cX11_noted 16 = .ok (.bipush 71, 2) := by decide +kernel
theorem dX11_noted_18 : decode cX11_noted 18 = .ok (.if_icmp .le 13, 3) := by decide +kernel
theorem dX11_noted_21 : decode cX11_noted 21 = .ok (.aload_n 0, 1) := by decide +kernel
theorem dX11_noted_22 : decode cX11_noted 22 = .ok (.iconst 1, 1) := by decide +kernel
theorem dX11_noted_23 : decode cX11_noted 23 = .ok (.aload_n 0, 1) := by decide +kernel
theorem dX11_noted_24 : decode cX11_noted 24 = .ok (.getfield 140, 3) := by decide +kernel
theorem dX11_noted_27 : decode cX11_noted 27 = .ok (.invokevirtual 146, 3) := by decide +kernel
theorem dX11_noted_30 : decode cX11_noted 30 = .ok (.ireturn, 1) := by decide +kernel
theorem dX11_noted_31 : decode cX11_noted 31 = .ok (.aload_n 0, 1) := by decide +kernel
theorem dX11_noted_32 : decode cX11_noted 32 = .ok (.iload_n 1, 1) := by decide +kernel
theorem dX11_noted_33 : decode cX11_noted 33 = .ok (.invokestatic 150, 3) := by decide +kernel
theorem dX11_noted_36 : decode cX11_noted 36 = .ok (.putfield 153, 3) := by decide +kernel
theorem dX11_noted_39 : decode cX11_noted 39 = .ok (.aload_n 0, 1) := by decide +kernel
theorem dX11_noted_40 : decode cX11_noted 40 = .ok (.dup, 1) := by decide +kernel
theorem dX11_noted_41 : decode cX11_noted 41 = .ok (.getfield 140, 3) := by decide +kernel
theorem dX11_noted_44 : decode cX11_noted 44 = .ok (.iconst 1, 1) := by decide +kernel
theorem dX11_noted_45 : decode cX11_noted 45 = .ok (.iadd, 1) := by decide +kernel
theorem dX11_noted_46 : decode cX11_noted 46 = .ok (.putfield 140, 3) := by decide +kernel
theorem dX11_noted_49 : decode cX11_noted 49 = .ok (.aload_n 0, 1) := by decide +kernel
theorem dX11_noted_50 : decode cX11_noted 50 = .ok (.aload_n 0, 1) := by decide +kernel
theorem dX11_noted_51 : decode cX11_noted 51 = .ok (.getfield 140, 3) := by decide +kernel
theorem dX11_noted_54 : decode cX11_noted 54 = .ok (.invokevirtual 143, 3) := by decide +kernel
theorem dX11_noted_57 : decode cX11_noted 57 = .ok (.istore_n 2, 1) := by decide +kernel
theorem dX11_noted_58 : decode cX11_noted 58 = .ok (.iconst 0, 1) := by decide +kernel
theorem dX11_noted_59 : decode cX11_noted 59 = .ok (.istore_n 3, 1) := by decide +kernel
theorem dX11_noted_60 : decode cX11_noted 60 = .ok (.iload_n 3, 1) := by decide +kernel
theorem dX11_noted_61 : decode cX11_noted 61 = .ok (.iconst 2, 1) := by decide +kernel
theorem dX11_noted_62 : decode cX11_noted 62 = .ok (.if_icmp .ge 65, 3) := by decide +kernel
theorem dX11_noted_65 : decode cX11_noted 65 = .ok (.iload_n 2, 1) := by decide +kernel
theorem dX11_noted_66 : decode cX11_noted 66 = .ok (.bipush 35, 2) := by decide +kernel
theorem dX11_noted_68 : decode cX11_noted 68 = .ok (.if_icmp .eq 9, 3) := by decide +kernel
theorem dX11_noted_71 : decode cX11_noted 71 = .ok (.iload_n 2, 1) := by decide +kernel
theorem dX11_noted_72 : decode cX11_noted 72 = .ok (.bipush 98, 2) := by decide +kernel
theorem dX11_noted_74 : decode cX11_noted 74 = .ok (.if_icmp .ne 53, 3) := by decide +kernel
theorem dX11_noted_77 : decode cX11_noted 77 = .ok (.aload_n 0, 1) := by decide +kernel
theorem dX11_noted_78 : decode cX11_noted 78 = .ok (.aload_n 0, 1) := by decide +kernel
theorem dX11_noted_79 : decode cX11_noted 79 = .ok (.getfield 140, 3) := by decide +kernel
theorem dX11_noted_82 : decode cX11_noted 82 = .ok (.invokevirtual 143, 3) := by decide +kernel
theorem dX11_noted_85 : decode cX11_noted 85 = .ok (.iload_n 2, 1) := by decide +kernel
theorem dX11_noted_86 : decode cX11_noted 86 = .ok (.if_icmp .ne 41, 3) := by decide +kernel
theorem dX11_noted_89 : decode cX11_noted 89 = .ok (.aload_n 0, 1) := by decide +kernel
theorem dX11_noted_90 : decode cX11_noted 90 = .ok (.dup, 1) := by decide +kernel
theorem dX11_noted_91 : decode cX11_noted 91 = .ok (.getfield 153, 3) := by decide +kernel
theorem dX11_noted_94 : decode cX11_noted 94 = .ok (.iload_n 2, 1) := by decide +kernel
theorem dX11_noted_95 : decode cX11_noted 95 = .ok (.bipush 35, 2) := by decide +kernel
theorem dX11_noted_97 : decode cX11_noted 97 = .ok (.if_icmp .ne 8, 3) := by decide +kernel
theorem dX11_noted_100 : decode cX11_noted 100 = .ok (.bipush 7, 2) := by decide +kernel
theorem dX11_noted_102 : decode cX11_noted 102 = .ok (.goto 5, 3) := by decide +kernel
theorem dX11_noted_105 : decode cX11_noted 105 = .ok (.bipush (-7), 2) := by decide +kernel
theorem dX11_noted_107 : decode cX11_noted 107 = .ok (.iadd, 1) := by decide +kernel
theorem dX11_noted_108 : decode cX11_noted 108 = .ok (.putfield 153, 3) := by decide +kernel
theorem dX11_noted_111 : decode cX11_noted 111 = .ok (.aload_n 0, 1) := by decide +kernel
theorem dX11_noted_112 : decode cX11_noted 112 = .ok (.dup, 1) := by decide +kernel
theorem dX11_noted_113 : decode cX11_noted 113 = .ok (.getfield 140, 3) := by decide +kernel
theorem dX11_noted_116 : decode cX11_noted 116 = .ok (.iconst 1, 1) := by decide +kernel
theorem dX11_noted_117 : decode cX11_noted 117 = .ok (.iadd, 1) := by decide +kernel
theorem dX11_noted_118 : decode cX11_noted 118 = .ok (.putfield 140, 3) := by decide +kernel
theorem dX11_noted_121 : decode cX11_noted 121 = .ok (.iinc 3 1, 3) := by decide +kernel
theorem dX11_noted_124 : decode cX11_noted 124 = .ok (.goto (-64), 3) := by decide +kernel
theorem dX11_noted_127 : decode cX11_noted 127 = .ok (.iconst 1, 1) := by decide +kernel
theorem dX11_noted_128 : decode cX11_noted 128 = .ok (.ireturn, 1) := by decide +kernel
theorem dX11_isHere_0 : decode cX11_isHere 0 = .ok (.iconst 1, 1) := by decide +kernel
theorem dX11_isHere_1 : decode cX11_isHere 1 = .ok (.istore_n 2, 1) := by decide +kernel
theorem dX11_isHere_2 : decode cX11_isHere 2 = .ok (.iconst 0, 1) := by decide +kernel
theorem dX11_isHere_3 : decode cX11_isHere 3 = .ok (.istore_n 3, 1) := by decide +kernel
theorem dX11_isHere_4 : decode cX11_isHere 4 = .ok (.iload_n 3, 1) := by decide +kernel
theorem dX11_isHere_5 : decode cX11_isHere 5 = .ok (.aload_n 1, 1) := by decide +kernel
theorem dX11_isHere_6 : decode cX11_isHere 6 = .ok (.invokevirtual 156, 3) := by decide +kernel
theorem dX11_isHere_9 : decode cX11_isHere 9 = .ok (.if_icmp .ge 37, 3) := by decide +kernel
theorem dX11_isHere_12 : decode cX11_isHere 12 = .ok (.iload_n 2, 1) := by decide +kernel
theorem dX11_isHere_13 : decode cX11_isHere 13 = .ok (.ifCond .eq 33, 3) := by decide +kernel
theorem dX11_isHere_16 : decode cX11_isHere 16 = .ok (.aload_n 0, 1) := by decide +kernel
theorem dX11_isHere_17 : decode cX11_isHere 17 = .ok (.aload_n 0, 1) := by decide +kernel
theorem dX11_isHere_18 : decode cX11_isHere 18 = .ok (.getfield 140, 3) := by decide +kernel
theorem dX11_isHere_21 : decode cX11_isHere 21 = .ok (.iload_n 3, 1) := by decide +kernel
theorem dX11_isHere_22 : decode cX11_isHere 22 = .ok (.iadd, 1) := by decide +kernel
theorem dX11_isHere_23 : decode cX11_isHere 23 = .ok (.invokevirtual 143, 3) := by decide +kernel
theorem dX11_isHere_26 : decode cX11_isHere 26 = .ok (.aload_n 1, 1) := by decide +kernel
theorem dX11_isHere_27 : decode cX11_isHere 27 = .ok (.iload_n 3, 1) := by decide +kernel
theorem dX11_isHere_28 : decode cX11_isHere 28 = .ok (.invokevirtual 162, 3) := by decide +kernel
theorem dX11_isHere_31 : decode cX11_isHere 31 = .ok (.if_icmp .ne 7, 3) := by decide +kernel
theorem dX11_isHere_34 : decode cX11_isHere 34 = .ok (.iconst 1, 1) := by decide +kernel
theorem dX11_isHere_35 : decode cX11_isHere 35 = .ok (.goto 4, 3) := by decide +kernel
theorem dX11_isHere_38 : decode cX11_isHere 38 = .ok (.iconst 0, 1) := by decide +kernel
theorem dX11_isHere_39 : decode cX11_isHere 39 = .ok (.istore_n 2, 1) := by decide +kernel
theorem dX11_isHere_40 : decode cX11_isHere 40 = .ok (.iinc 3 1, 3) := by decide +kernel
theorem dX11_isHere_43 : decode cX11_isHere 43 = .ok (.goto (-39), 3) := by decide +kernel
theorem dX11_isHere_46 : decode cX11_isHere 46 = .ok (.iload_n 2, 1) := by decide +kernel
theorem dX11_isHere_47 : decode cX11_isHere 47 = .ok (.ireturn, 1) := by decide +kernel
theorem dX11_named_0 : decode cX11_named 0 = .ok (.aload_n 0, 1) := by decide +kernel
theorem dX11_named_1 : decode cX11_named 1 = .ok (.invokevirtual 166, 3) := by decide +kernel
theorem dX11_named_4 : decode cX11_named 4 = .ok (.ifCond .ne 5, 3) := by decide +kernel
theorem dX11_named_7 : decode cX11_named 7 = .ok (.iconst 0, 1) := by decide +kernel
theorem dX11_named_8 : decode cX11_named 8 = .ok (.ireturn, 1) := by decide +kernel
theorem dX11_named_9 : decode cX11_named 9 = .ok (.aload_n 0, 1) := by decide +kernel
theorem dX11_named_10 : decode cX11_named 10 = .ok (.getfield 32, 3) := by decide +kernel
theorem dX11_named_13 : decode cX11_named 13 = .ok (.aload_n 0, 1) := by decide +kernel
theorem dX11_named_14 : decode cX11_named 14 = .ok (.getfield 170, 3) := by decide +kernel
theorem dX11_named_17 : decode cX11_named 17 = .ok (.aload_n 0, 1) := by decide +kernel
theorem dX11_named_18 : decode cX11_named 18 = .ok (.getfield 153, 3) := by decide +kernel
theorem dX11_named_21 : decode cX11_named 21 = .ok (.iastore, 1) := by decide +kernel
theorem dX11_named_22 : decode cX11_named 22 = .ok (.aload_n 0, 1) := by decide +kernel
theorem dX11_named_23 : decode cX11_named 23 = .ok (.getfield 38, 3) := by decide +kernel
theorem dX11_named_26 : decode cX11_named 26 = .ok (.aload_n 0, 1) := by decide +kernel
theorem dX11_named_27 : decode cX11_named 27 = .ok (.getfield 170, 3) := by decide +kernel
theorem dX11_named_30 : decode cX11_named 30 = .ok (.aload_n 0, 1) := by decide +kernel
theorem dX11_named_31 : decode cX11_named 31 = .ok (.getfield 153, 3) := by decide +kernel
theorem dX11_named_34 : decode cX11_named 34 = .ok (.iastore, 1) := by decide +kernel
theorem dX11_named_35 : decode cX11_named 35 = .ok (.iconst 0, 1) := by decide +kernel
theorem dX11_named_36 : decode cX11_named 36 = .ok (.istore_n 1, 1) := by decide +kernel
theorem dX11_named_37 : decode cX11_named 37 = .ok (.iconst 0, 1) := by decide +kernel
theorem dX11_named_38 : decode cX11_named 38 = .ok (.istore_n 2, 1) := by decide +kernel
theorem dX11_named_39 : decode cX11_named 39 = .ok (.iload_n 2, 1) := by decide +kernel
theorem dX11_named_40 : decode cX11_named 40 = .ok (.bipush 14, 2) := by decide +kernel
theorem dX11_named_42 : decode cX11_named 42 = .ok (.if_icmp .ge 39, 3) := by decide +kernel
theorem dX11_named_45 : decode cX11_named 45 = .ok (.aload_n 0, 1) := by decide +kernel
theorem dX11_named_46 : decode cX11_named 46 = .ok (.iload_n 2, 1) := by decide +kernel
theorem dX11_named_47 : decode cX11_named 47 = .ok (.invokestatic 173, 3) := by decide +kernel
theorem dX11_named_50 : decode cX11_named 50 = .ok (.invokevirtual 177, 3) := by decide +kernel
theorem dX11_named_53 : decode cX11_named 53 = .ok (.ifCond .eq 22, 3) := by decide +kernel
theorem dX11_named_56 : decode cX11_named 56 = .ok (.iload_n 2, 1) := by decide +kernel
theorem dX11_named_57 : decode cX11_named 57 = .ok (.invokestatic 173, 3) := by decide +kernel
theorem dX11_named_60 : decode cX11_named 60 = .ok (.invokevirtual 156, 3) := by decide +kernel
theorem dX11_named_63 : decode cX11_named 63 = .ok (.iload_n 1, 1) := by decide +kernel
theorem dX11_named_64 : decode cX11_named 64 = .ok (.invokestatic 173, 3) := by decide +kernel
theorem dX11_named_67 : decode cX11_named 67 = .ok (.invokevirtual 156, 3) := by decide +kernel
theorem dX11_named_70 : decode cX11_named 70 = .ok (.if_icmp .le 5, 3) := by decide +kernel
theorem dX11_named_73 : decode cX11_named 73 = .ok (.iload_n 2, 1) := by decide +kernel
theorem dX11_named_74 : decode cX11_named 74 = .ok (.istore_n 1, 1) := by decide +kernel
theorem dX11_named_75 : decode cX11_named 75 = .ok (.iinc 2 1, 3) := by decide +kernel
theorem dX11_named_78 : decode cX11_named 78 = .ok (.goto (-39), 3) := by decide +kernel
theorem dX11_named_81 : decode cX11_named 81 = .ok (.aload_n 0, 1) := by decide +kernel
theorem dX11_named_82 : decode cX11_named 82 = .ok (.getfield 35, 3) := by decide +kernel
theorem dX11_named_85 : decode cX11_named 85 = .ok (.aload_n 0, 1) := by decide +kernel
theorem dX11_named_86 : decode cX11_named 86 = .ok (.getfield 170, 3) := by decide +kernel
theorem dX11_named_89 : decode cX11_named 89 = .ok (.iload_n 1, 1) := by decide +kernel
theorem dX11_named_90 : decode cX11_named 90 = .ok (.iastore, 1) := by decide +kernel
theorem dX11_named_91 : decode cX11_named 91 = .ok (.aload_n 0, 1) := by decide +kernel
theorem dX11_named_92 : decode cX11_named 92 = .ok (.dup, 1) := by decide +kernel
theorem dX11_named_93 : decode cX11_named 93 = .ok (.getfield 140, 3) := by decide +kernel
theorem dX11_named_96 : decode cX11_named 96 = .ok (.iload_n 1, 1) := by decide +kernel
theorem dX11_named_97 : decode cX11_named 97 = .ok (.invokestatic 173, 3) := by decide +kernel
theorem dX11_named_100 : decode cX11_named 100 = .ok (.invokevirtual 156, 3) := by decide +kernel
theorem dX11_named_103 : decode cX11_named 103 = .ok (.iadd, 1) := by decide +kernel
theorem dX11_named_104 : decode cX11_named 104 = .ok (.putfield 140, 3) := by decide +kernel
theorem dX11_named_107 : decode cX11_named 107 = .ok (.aload_n 0, 1) := by decide +kernel
theorem dX11_named_108 : decode cX11_named 108 = .ok (.aload_n 0, 1) := by decide +kernel
theorem dX11_named_109 : decode cX11_named 109 = .ok (.getfield 140, 3) := by decide +kernel
theorem dX11_named_112 : decode cX11_named 112 = .ok (.invokevirtual 143, 3) := by decide +kernel
theorem dX11_named_115 : decode cX11_named 115 = .ok (.bipush 47, 2) := by decide +kernel
theorem dX11_named_117 : decode cX11_named 117 = .ok (.if_icmp .ne 35, 3) := by decide +kernel
theorem dX11_named_120 : decode cX11_named 120 = .ok (.aload_n 0, 1) := by decide +kernel
theorem dX11_named_121 : decode cX11_named 121 = .ok (.dup, 1) := by decide +kernel
theorem dX11_named_122 : decode cX11_named 122 = .ok (.getfield 140, 3) := by decide +kernel
theorem dX11_named_125 : decode cX11_named 125 = .ok (.iconst 1, 1) := by decide +kernel
theorem dX11_named_126 : decode cX11_named 126 = .ok (.iadd, 1) := by decide +kernel
theorem dX11_named_127 : decode cX11_named 127 = .ok (.putfield 140, 3) := by decide +kernel
theorem dX11_named_130 : decode cX11_named 130 = .ok (.aload_n 0, 1) := by decide +kernel
theorem dX11_named_131 : decode cX11_named 131 = .ok (.invokevirtual 166, 3) := by decide +kernel
theorem dX11_named_134 : decode cX11_named 134 = .ok (.ifCond .ne 5, 3) := by decide +kernel
theorem dX11_named_137 : decode cX11_named 137 = .ok (.iconst 0, 1) := by decide +kernel
theorem dX11_named_138 : decode cX11_named 138 = .ok (.ireturn, 1) := by decide +kernel
theorem dX11_named_139 : decode cX11_named 139 = .ok (.aload_n 0, 1) := by decide +kernel
theorem dX11_named_140 : decode cX11_named 140 = .ok (.getfield 38, 3) := by decide +kernel
theorem dX11_named_143 : decode cX11_named 143 = .ok (.aload_n 0, 1) := by decide +kernel
theorem dX11_named_144 : decode cX11_named 144 = .ok (.getfield 170, 3) := by decide +kernel
theorem dX11_named_147 : decode cX11_named 147 = .ok (.aload_n 0, 1) := by decide +kernel
theorem dX11_named_148 : decode cX11_named 148 = .ok (.getfield 153, 3) := by decide +kernel
theorem dX11_named_151 : decode cX11_named 151 = .ok (.iastore, 1) := by decide +kernel
theorem dX11_named_152 : decode cX11_named 152 = .ok (.aload_n 0, 1) := by decide +kernel
theorem dX11_named_153 : decode cX11_named 153 = .ok (.aload_n 0, 1) := by decide +kernel
theorem dX11_named_154 : decode cX11_named 154 = .ok (.getfield 140, 3) := by decide +kernel
theorem dX11_named_157 : decode cX11_named 157 = .ok (.invokevirtual 143, 3) := by decide +kernel
theorem dX11_named_160 : decode cX11_named 160 = .ok (.bipush 93, 2) := by decide +kernel
theorem dX11_named_162 : decode cX11_named 162 = .ok (.if_icmp .eq 13, 3) := by decide +kernel
theorem dX11_named_165 : decode cX11_named 165 = .ok (.aload_n 0, 1) := by decide +kernel
theorem dX11_named_166 : decode cX11_named 166 = .ok (.iconst 1, 1) := by decide +kernel
theorem dX11_named_167 : decode cX11_named 167 = .ok (.aload_n 0, 1) := by decide +kernel
theorem dX11_named_168 : decode cX11_named 168 = .ok (.getfield 140, 3) := by decide +kernel
theorem dX11_named_171 : decode cX11_named 171 = .ok (.invokevirtual 146, 3) := by decide +kernel
theorem dX11_named_174 : decode cX11_named 174 = .ok (.ireturn, 1) := by decide +kernel
theorem dX11_named_175 : decode cX11_named 175 = .ok (.aload_n 0, 1) := by decide +kernel
theorem dX11_named_176 : decode cX11_named 176 = .ok (.dup, 1) := by decide +kernel
theorem dX11_named_177 : decode cX11_named 177 = .ok (.getfield 140, 3) := by decide +kernel
theorem dX11_named_180 : decode cX11_named 180 = .ok (.iconst 1, 1) := by decide +kernel
theorem dX11_named_181 : decode cX11_named 181 = .ok (.iadd, 1) := by decide +kernel
theorem dX11_named_182 : decode cX11_named 182 = .ok (.putfield 140, 3) := by decide +kernel
theorem dX11_named_185 : decode cX11_named 185 = .ok (.iconst 1, 1) := by decide +kernel
theorem dX11_named_186 : decode cX11_named 186 = .ok (.ireturn, 1) := by decide +kernel
theorem dX11_reads_0 : decode cX11_reads 0 = .ok (.aload_n 0, 1) := by decide +kernel
theorem dX11_reads_1 : decode cX11_reads 1 = .ok (.iconst 0, 1) := by decide +kernel
theorem dX11_reads_2 : decode cX11_reads 2 = .ok (.putfield 140, 3) := by decide +kernel
theorem dX11_reads_5 : decode cX11_reads 5 = .ok (.aload_n 0, 1) := by decide +kernel
theorem dX11_reads_6 : decode cX11_reads 6 = .ok (.iconst 0, 1) := by decide +kernel
theorem dX11_reads_7 : decode cX11_reads 7 = .ok (.putfield 170, 3) := by decide +kernel
theorem dX11_reads_10 : decode cX11_reads 10 = .ok (.aload_n 0, 1) := by decide +kernel
theorem dX11_reads_11 : decode cX11_reads 11 = .ok (.iconst 1, 1) := by decide +kernel
theorem dX11_reads_12 : decode cX11_reads 12 = .ok (.putfield 181, 3) := by decide +kernel
theorem dX11_reads_15 : decode cX11_reads 15 = .ok (.aload_n 0, 1) := by decide +kernel
theorem dX11_reads_16 : decode cX11_reads 16 = .ok (.iconst 0, 1) := by decide +kernel
theorem dX11_reads_17 : decode cX11_reads 17 = .ok (.putfield 184, 3) := by decide +kernel
theorem dX11_reads_20 : decode cX11_reads 20 = .ok (.aload_n 0, 1) := by decide +kernel
theorem dX11_reads_21 : decode cX11_reads 21 = .ok (.getfield 140, 3) := by decide +kernel
theorem dX11_reads_24 : decode cX11_reads 24 = .ok (.aload_n 0, 1) := by decide +kernel
theorem dX11_reads_25 : decode cX11_reads 25 = .ok (.getfield 134, 3) := by decide +kernel
theorem dX11_reads_28 : decode cX11_reads 28 = .ok (.if_icmp .ge 218, 3) := by decide +kernel
theorem dX11_reads_31 : decode cX11_reads 31 = .ok (.aload_n 0, 1) := by decide +kernel
theorem dX11_reads_32 : decode cX11_reads 32 = .ok (.getfield 7, 3) := by decide +kernel
theorem dX11_reads_35 : decode cX11_reads 35 = .ok (.aload_n 0, 1) := by decide +kernel
theorem dX11_reads_36 : decode cX11_reads 36 = .ok (.getfield 140, 3) := by decide +kernel
theorem dX11_reads_39 : decode cX11_reads 39 = .ok (.iaload, 1) := by decide +kernel
theorem dX11_reads_40 : decode cX11_reads 40 = .ok (.istore_n 1, 1) := by decide +kernel
theorem dX11_reads_41 : decode cX11_reads 41 = .ok (.iload_n 1, 1) := by decide +kernel
theorem dX11_reads_42 : decode cX11_reads 42 = .ok (.bipush 91, 2) := by decide +kernel
theorem dX11_reads_44 : decode cX11_reads 44 = .ok (.if_icmp .ne 94, 3) := by decide +kernel
theorem dX11_reads_47 : decode cX11_reads 47 = .ok (.aload_n 0, 1) := by decide +kernel
theorem dX11_reads_48 : decode cX11_reads 48 = .ok (.getfield 170, 3) := by decide +kernel
theorem dX11_reads_51 : decode cX11_reads 51 = .ok (.bipush 60, 2) := by decide +kernel
theorem dX11_reads_53 : decode cX11_reads 53 = .ok (.if_icmp .ne 13, 3) := by decide +kernel
theorem dX11_reads_56 : decode cX11_reads 56 = .ok (.aload_n 0, 1) := by decide +kernel
theorem dX11_reads_57 : decode cX11_reads 57 = .ok (.iconst 2, 1) := by decide +kernel
theorem dX11_reads_58 : decode cX11_reads 58 = .ok (.aload_n 0, 1) := by decide +kernel
theorem dX11_reads_59 : decode cX11_reads 59 = .ok (.getfield 140, 3) := by decide +kernel
theorem dX11_reads_62 : decode cX11_reads 62 = .ok (.invokevirtual 146, 3) := by decide +kernel
theorem dX11_reads_65 : decode cX11_reads 65 = .ok (.ireturn, 1) := by decide +kernel
theorem dX11_reads_66 : decode cX11_reads 66 = .ok (.aload_n 0, 1) := by decide +kernel
theorem dX11_reads_67 : decode cX11_reads 67 = .ok (.dup, 1) := by decide +kernel
theorem dX11_reads_68 : decode cX11_reads 68 = .ok (.getfield 140, 3) := by decide +kernel
theorem dX11_reads_71 : decode cX11_reads 71 = .ok (.iconst 1, 1) := by decide +kernel
theorem dX11_reads_72 : decode cX11_reads 72 = .ok (.iadd, 1) := by decide +kernel
theorem dX11_reads_73 : decode cX11_reads 73 = .ok (.putfield 140, 3) := by decide +kernel
theorem dX11_reads_76 : decode cX11_reads 76 = .ok (.aload_n 0, 1) := by decide +kernel
theorem dX11_reads_77 : decode cX11_reads 77 = .ok (.invokevirtual 187, 3) := by decide +kernel
theorem dX11_reads_80 : decode cX11_reads 80 = .ok (.ifCond .ne 5, 3) := by decide +kernel
theorem dX11_reads_83 : decode cX11_reads 83 = .ok (.iconst 0, 1) := by decide +kernel
theorem dX11_reads_84 : decode cX11_reads 84 = .ok (.ireturn, 1) := by decide +kernel
theorem dX11_reads_85 : decode cX11_reads 85 = .ok (.aload_n 0, 1) := by decide +kernel
theorem dX11_reads_86 : decode cX11_reads 86 = .ok (.getfield 41, 3) := by decide +kernel
theorem dX11_reads_89 : decode cX11_reads 89 = .ok (.aload_n 0, 1) := by decide +kernel
theorem dX11_reads_90 : decode cX11_reads 90 = .ok (.getfield 170, 3) := by decide +kernel
theorem dX11_reads_93 : decode cX11_reads 93 = .ok (.aload_n 0, 1) := by decide +kernel
theorem dX11_reads_94 : decode cX11_reads 94 = .ok (.getfield 181, 3) := by decide +kernel
theorem dX11_reads_97 : decode cX11_reads 97 = .ok (.iconst 1, 1) := by decide +kernel
theorem dX11_reads_98 : decode cX11_reads 98 = .ok (.isub, 1) := by decide +kernel
theorem dX11_reads_99 : decode cX11_reads 99 = .ok (.iastore, 1) := by decide +kernel
theorem dX11_reads_100 : decode cX11_reads 100 = .ok (.aload_n 0, 1) := by decide +kernel
theorem dX11_reads_101 : decode cX11_reads 101 = .ok (.getfield 47, 3) := by decide +kernel
theorem dX11_reads_104 : decode cX11_reads 104 = .ok (.aload_n 0, 1) := by decide +kernel
theorem dX11_reads_105 : decode cX11_reads 105 = .ok (.getfield 184, 3) := by decide +kernel
theorem dX11_reads_108 : decode cX11_reads 108 = .ok (.iconst (-1), 1) := by decide +kernel
theorem dX11_reads_109 : decode cX11_reads 109 = .ok (.aload_n 0, 1) := by decide +kernel
theorem dX11_reads_110 : decode cX11_reads 110 = .ok (.getfield 170, 3) := by decide +kernel
theorem dX11_reads_113 : decode cX11_reads 113 = .ok (.isub, 1) := by decide +kernel
theorem dX11_reads_114 : decode cX11_reads 114 = .ok (.iastore, 1) := by decide +kernel
theorem dX11_reads_115 : decode cX11_reads 115 = .ok (.aload_n 0, 1) := by decide +kernel
theorem dX11_reads_116 : decode cX11_reads 116 = .ok (.dup, 1) := by decide +kernel
theorem dX11_reads_117 : decode cX11_reads 117 = .ok (.getfield 184, 3) := by decide +kernel
theorem dX11_reads_120 : decode cX11_reads 120 = .ok (.iconst 1, 1) := by decide +kernel
theorem dX11_reads_121 : decode cX11_reads 121 = .ok (.iadd, 1) := by decide +kernel
theorem dX11_reads_122 : decode cX11_reads 122 = .ok (.putfield 184, 3) := by decide +kernel
theorem dX11_reads_125 : decode cX11_reads 125 = .ok (.aload_n 0, 1) := by decide +kernel
theorem dX11_reads_126 : decode cX11_reads 126 = .ok (.dup, 1) := by decide +kernel
theorem dX11_reads_127 : decode cX11_reads 127 = .ok (.getfield 170, 3) := by decide +kernel
theorem dX11_reads_130 : decode cX11_reads 130 = .ok (.iconst 1, 1) := by decide +kernel
theorem dX11_reads_131 : decode cX11_reads 131 = .ok (.iadd, 1) := by decide +kernel
theorem dX11_reads_132 : decode cX11_reads 132 = .ok (.putfield 170, 3) := by decide +kernel
theorem dX11_reads_135 : decode cX11_reads 135 = .ok (.goto (-115), 3) := by decide +kernel
theorem dX11_reads_138 : decode cX11_reads 138 = .ok (.iload_n 1, 1) := by decide +kernel
theorem dX11_reads_139 : decode cX11_reads 139 = .ok (.bipush 10, 2) := by decide +kernel
theorem dX11_reads_141 : decode cX11_reads 141 = .ok (.if_icmp .eq 31, 3) := by decide +kernel
theorem dX11_reads_144 : decode cX11_reads 144 = .ok (.iload_n 1, 1) := by decide +kernel
theorem dX11_reads_145 : decode cX11_reads 145 = .ok (.bipush 32, 2) := by decide +kernel
theorem dX11_reads_147 : decode cX11_reads 147 = .ok (.if_icmp .lt 15, 3) := by decide +kernel
theorem dX11_reads_150 : decode cX11_reads 150 = .ok (.iload_n 1, 1) := by decide +kernel
theorem dX11_reads_151 : decode cX11_reads 151 = .ok (.bipush 126, 2) := by decide +kernel
theorem dX11_reads_153 : decode cX11_reads 153 = .ok (.if_icmp .gt 9, 3) := by decide +kernel
theorem dX11_reads_156 : decode cX11_reads 156 = .ok (.iload_n 1, 1) := by decide +kernel
theorem dX11_reads_157 : decode cX11_reads 157 = .ok (.bipush 93, 2) := by decide +kernel
theorem dX11_reads_159 : decode cX11_reads 159 = .ok (.if_icmp .ne 13, 3) := by decide +kernel
theorem dX11_reads_162 : decode cX11_reads 162 = .ok (.aload_n 0, 1) := by decide +kernel
theorem dX11_reads_163 : decode cX11_reads 163 = .ok (.iconst 1, 1) := by decide +kernel
theorem dX11_reads_164 : decode cX11_reads 164 = .ok (.aload_n 0, 1) := by decide +kernel
theorem dX11_reads_165 : decode cX11_reads 165 = .ok (.getfield 140, 3) := by decide +kernel
theorem dX11_reads_168 : decode cX11_reads 168 = .ok (.invokevirtual 146, 3) := by decide +kernel
theorem dX11_reads_171 : decode cX11_reads 171 = .ok (.ireturn, 1) := by decide +kernel
theorem dX11_reads_172 : decode cX11_reads 172 = .ok (.iload_n 1, 1) := by decide +kernel
theorem dX11_reads_173 : decode cX11_reads 173 = .ok (.bipush 10, 2) := by decide +kernel
theorem dX11_reads_175 : decode cX11_reads 175 = .ok (.if_icmp .ne 22, 3) := by decide +kernel
theorem dX11_reads_178 : decode cX11_reads 178 = .ok (.aload_n 0, 1) := by decide +kernel
theorem dX11_reads_179 : decode cX11_reads 179 = .ok (.getfield 181, 3) := by decide +kernel
theorem dX11_reads_182 : decode cX11_reads 182 = .ok (.bipush 40, 2) := by decide +kernel
theorem dX11_reads_184 : decode cX11_reads 184 = .ok (.if_icmp .ne 13, 3) := by decide +kernel
theorem dX11_reads_187 : decode cX11_reads 187 = .ok (.aload_n 0, 1) := by decide +kernel
theorem dX11_reads_188 : decode cX11_reads 188 = .ok (.iconst 2, 1) := by decide +kernel
theorem dX11_reads_189 : decode cX11_reads 189 = .ok (.aload_n 0, 1) := by decide +kernel
theorem dX11_reads_190 : decode cX11_reads 190 = .ok (.getfield 140, 3) := by decide +kernel
theorem dX11_reads_193 : decode cX11_reads 193 = .ok (.invokevirtual 146, 3) := by decide +kernel
theorem dX11_reads_196 : decode cX11_reads 196 = .ok (.ireturn, 1) := by decide +kernel
theorem dX11_reads_197 : decode cX11_reads 197 = .ok (.iload_n 1, 1) := by decide +kernel
theorem dX11_reads_198 : decode cX11_reads 198 = .ok (.bipush 10, 2) := by decide +kernel
theorem dX11_reads_200 : decode cX11_reads 200 = .ok (.if_icmp .ne 13, 3) := by decide +kernel
theorem dX11_reads_203 : decode cX11_reads 203 = .ok (.aload_n 0, 1) := by decide +kernel
theorem dX11_reads_204 : decode cX11_reads 204 = .ok (.dup, 1) := by decide +kernel
theorem dX11_reads_205 : decode cX11_reads 205 = .ok (.getfield 181, 3) := by decide +kernel
theorem dX11_reads_208 : decode cX11_reads 208 = .ok (.iconst 1, 1) := by decide +kernel
theorem dX11_reads_209 : decode cX11_reads 209 = .ok (.iadd, 1) := by decide +kernel
theorem dX11_reads_210 : decode cX11_reads 210 = .ok (.putfield 181, 3) := by decide +kernel
theorem dX11_reads_213 : decode cX11_reads 213 = .ok (.aload_n 0, 1) := by decide +kernel
theorem dX11_reads_214 : decode cX11_reads 214 = .ok (.getfield 47, 3) := by decide +kernel
theorem dX11_reads_217 : decode cX11_reads 217 = .ok (.aload_n 0, 1) := by decide +kernel
theorem dX11_reads_218 : decode cX11_reads 218 = .ok (.getfield 184, 3) := by decide +kernel
theorem dX11_reads_221 : decode cX11_reads 221 = .ok (.iload_n 1, 1) := by decide +kernel
theorem dX11_reads_222 : decode cX11_reads 222 = .ok (.iastore, 1) := by decide +kernel
theorem dX11_reads_223 : decode cX11_reads 223 = .ok (.aload_n 0, 1) := by decide +kernel
theorem dX11_reads_224 : decode cX11_reads 224 = .ok (.dup, 1) := by decide +kernel
theorem dX11_reads_225 : decode cX11_reads 225 = .ok (.getfield 184, 3) := by decide +kernel
theorem dX11_reads_228 : decode cX11_reads 228 = .ok (.iconst 1, 1) := by decide +kernel
theorem dX11_reads_229 : decode cX11_reads 229 = .ok (.iadd, 1) := by decide +kernel
theorem dX11_reads_230 : decode cX11_reads 230 = .ok (.putfield 184, 3) := by decide +kernel
theorem dX11_reads_233 : decode cX11_reads 233 = .ok (.aload_n 0, 1) := by decide +kernel
theorem dX11_reads_234 : decode cX11_reads 234 = .ok (.dup, 1) := by decide +kernel
theorem dX11_reads_235 : decode cX11_reads 235 = .ok (.getfield 140, 3) := by decide +kernel
theorem dX11_reads_238 : decode cX11_reads 238 = .ok (.iconst 1, 1) := by decide +kernel
theorem dX11_reads_239 : decode cX11_reads 239 = .ok (.iadd, 1) := by decide +kernel
theorem dX11_reads_240 : decode cX11_reads 240 = .ok (.putfield 140, 3) := by decide +kernel
theorem dX11_reads_243 : decode cX11_reads 243 = .ok (.goto (-223), 3) := by decide +kernel
theorem dX11_reads_246 : decode cX11_reads 246 = .ok (.iconst 1, 1) := by decide +kernel
theorem dX11_reads_247 : decode cX11_reads 247 = .ok (.ireturn, 1) := by decide +kernel
theorem dX11_song_0 : decode cX11_song 0 = .ok (.aload_n 0, 1) := by decide +kernel
theorem dX11_song_1 : decode cX11_song 1 = .ok (.iconst 0, 1) := by decide +kernel
theorem dX11_song_2 : decode cX11_song 2 = .ok (.putfield 89, 3) := by decide +kernel
theorem dX11_song_5 : decode cX11_song 5 = .ok (.aload_n 0, 1) := by decide +kernel
theorem dX11_song_6 : decode cX11_song 6 = .ok (.iload_n 1, 1) := by decide +kernel
theorem dX11_song_7 : decode cX11_song 7 = .ok (.ifCond .lt 15, 3) := by decide +kernel
theorem dX11_song_10 : decode cX11_song 10 = .ok (.iload_n 1, 1) := by decide +kernel
theorem dX11_song_11 : decode cX11_song 11 = .ok (.aload_n 0, 1) := by decide +kernel
theorem dX11_song_12 : decode cX11_song 12 = .ok (.getfield 92, 3) := by decide +kernel
theorem dX11_song_15 : decode cX11_song 15 = .ok (.if_icmp .gt 7, 3) := by decide +kernel
theorem dX11_song_18 : decode cX11_song 18 = .ok (.iconst 1, 1) := by decide +kernel
theorem dX11_song_19 : decode cX11_song 19 = .ok (.goto 4, 3) := by decide +kernel
theorem dX11_song_22 : decode cX11_song 22 = .ok (.iconst 0, 1) := by decide +kernel
theorem dX11_song_23 : decode cX11_song 23 = .ok (.iconst 1, 1) := by decide +kernel
theorem dX11_song_24 : decode cX11_song 24 = .ok (.invokevirtual 190, 3) := by decide +kernel
theorem dX11_song_27 : decode cX11_song 27 = .ok (.ifCond .ne 5, 3) := by decide +kernel
theorem dX11_song_30 : decode cX11_song 30 = .ok (.iconst 0, 1) := by decide +kernel
theorem dX11_song_31 : decode cX11_song 31 = .ok (.ireturn, 1) := by decide +kernel
theorem dX11_song_32 : decode cX11_song 32 = .ok (.aload_n 0, 1) := by decide +kernel
theorem dX11_song_33 : decode cX11_song 33 = .ok (.iload_n 1, 1) := by decide +kernel
theorem dX11_song_34 : decode cX11_song 34 = .ok (.putfield 134, 3) := by decide +kernel
theorem dX11_song_37 : decode cX11_song 37 = .ok (.aload_n 0, 1) := by decide +kernel
theorem dX11_song_38 : decode cX11_song 38 = .ok (.iconst 0, 1) := by decide +kernel
theorem dX11_song_39 : decode cX11_song 39 = .ok (.putfield 92, 3) := by decide +kernel
theorem dX11_song_42 : decode cX11_song 42 = .ok (.aload_n 0, 1) := by decide +kernel
theorem dX11_song_43 : decode cX11_song 43 = .ok (.iconst 0, 1) := by decide +kernel
theorem dX11_song_44 : decode cX11_song 44 = .ok (.putfield 137, 3) := by decide +kernel
theorem dX11_song_47 : decode cX11_song 47 = .ok (.aload_n 0, 1) := by decide +kernel
theorem dX11_song_48 : decode cX11_song 48 = .ok (.iconst (-1), 1) := by decide +kernel
theorem dX11_song_49 : decode cX11_song 49 = .ok (.putfield 13, 3) := by decide +kernel
theorem dX11_song_52 : decode cX11_song 52 = .ok (.aload_n 0, 1) := by decide +kernel
theorem dX11_song_53 : decode cX11_song 53 = .ok (.invokevirtual 194, 3) := by decide +kernel
theorem dX11_song_56 : decode cX11_song 56 = .ok (.ifCond .ne 8, 3) := by decide +kernel
theorem dX11_song_59 : decode cX11_song 59 = .ok (.aload_n 0, 1) := by decide +kernel
theorem dX11_song_60 : decode cX11_song 60 = .ok (.getfield 137, 3) := by decide +kernel
theorem dX11_song_63 : decode cX11_song 63 = .ok (.ireturn, 1) := by decide +kernel
theorem dX11_song_64 : decode cX11_song 64 = .ok (.aload_n 0, 1) := by decide +kernel
theorem dX11_song_65 : decode cX11_song 65 = .ok (.aload_n 0, 1) := by decide +kernel
theorem dX11_song_66 : decode cX11_song 66 = .ok (.getfield 170, 3) := by decide +kernel
theorem dX11_song_69 : decode cX11_song 69 = .ok (.putfield 197, 3) := by decide +kernel
theorem dX11_song_72 : decode cX11_song 72 = .ok (.aload_n 0, 1) := by decide +kernel
theorem dX11_song_73 : decode cX11_song 73 = .ok (.aload_n 0, 1) := by decide +kernel
theorem dX11_song_74 : decode cX11_song 74 = .ok (.getfield 181, 3) := by decide +kernel
theorem dX11_song_77 : decode cX11_song 77 = .ok (.putfield 200, 3) := by decide +kernel
theorem dX11_song_80 : decode cX11_song 80 = .ok (.aload_n 0, 1) := by decide +kernel
theorem dX11_song_81 : decode cX11_song 81 = .ok (.aload_n 0, 1) := by decide +kernel
theorem dX11_song_82 : decode cX11_song 82 = .ok (.getfield 184, 3) := by decide +kernel
theorem dX11_song_85 : decode cX11_song 85 = .ok (.putfield 203, 3) := by decide +kernel
theorem dX11_song_88 : decode cX11_song 88 = .ok (.aload_n 0, 1) := by decide +kernel
theorem dX11_song_89 : decode cX11_song 89 = .ok (.iconst 1, 1) := by decide +kernel
theorem dX11_song_90 : decode cX11_song 90 = .ok (.putfield 206, 3) := by decide +kernel
theorem dX11_song_93 : decode cX11_song 93 = .ok (.iconst 0, 1) := by decide +kernel
theorem dX11_song_94 : decode cX11_song 94 = .ok (.istore_n 2, 1) := by decide +kernel
theorem dX11_song_95 : decode cX11_song 95 = .ok (.iload_n 2, 1) := by decide +kernel
theorem dX11_song_96 : decode cX11_song 96 = .ok (.aload_n 0, 1) := by decide +kernel
theorem dX11_song_97 : decode cX11_song 97 = .ok (.getfield 203, 3) := by decide +kernel
theorem dX11_song_100 : decode cX11_song 100 = .ok (.if_icmp .ge 21, 3) := by decide +kernel
theorem dX11_song_103 : decode cX11_song 103 = .ok (.aload_n 0, 1) := by decide +kernel
theorem dX11_song_104 : decode cX11_song 104 = .ok (.getfield 44, 3) := by decide +kernel
theorem dX11_song_107 : decode cX11_song 107 = .ok (.iload_n 2, 1) := by decide +kernel
theorem dX11_song_108 : decode cX11_song 108 = .ok (.aload_n 0, 1) := by decide +kernel
theorem dX11_song_109 : decode cX11_song 109 = .ok (.getfield 47, 3) := by decide +kernel
theorem dX11_song_112 : decode cX11_song 112 = .ok (.iload_n 2, 1) := by decide +kernel
theorem dX11_song_113 : decode cX11_song 113 = .ok (.iaload, 1) := by decide +kernel
theorem dX11_song_114 : decode cX11_song 114 = .ok (.iastore, 1) := by decide +kernel
theorem dX11_song_115 : decode cX11_song 115 = .ok (.iinc 2 1, 3) := by decide +kernel
theorem dX11_song_118 : decode cX11_song 118 = .ok (.goto (-23), 3) := by decide +kernel
theorem dX11_song_121 : decode cX11_song 121 = .ok (.iconst 0, 1) := by decide +kernel
theorem dX11_song_122 : decode cX11_song 122 = .ok (.istore_n 2, 1) := by decide +kernel
theorem dX11_song_123 : decode cX11_song 123 = .ok (.iload_n 2, 1) := by decide +kernel
theorem dX11_song_124 : decode cX11_song 124 = .ok (.aload_n 0, 1) := by decide +kernel
theorem dX11_song_125 : decode cX11_song 125 = .ok (.getfield 197, 3) := by decide +kernel
theorem dX11_song_128 : decode cX11_song 128 = .ok (.if_icmp .ge 57, 3) := by decide +kernel
theorem dX11_song_131 : decode cX11_song 131 = .ok (.aload_n 0, 1) := by decide +kernel
theorem dX11_song_132 : decode cX11_song 132 = .ok (.getfield 20, 3) := by decide +kernel
theorem dX11_song_135 : decode cX11_song 135 = .ok (.iload_n 2, 1) := by decide +kernel
theorem dX11_song_136 : decode cX11_song 136 = .ok (.aload_n 0, 1) := by decide +kernel
theorem dX11_song_137 : decode cX11_song 137 = .ok (.getfield 32, 3) := by decide +kernel
theorem dX11_song_140 : decode cX11_song 140 = .ok (.iload_n 2, 1) := by decide +kernel
theorem dX11_song_141 : decode cX11_song 141 = .ok (.iaload, 1) := by decide +kernel
theorem dX11_song_142 : decode cX11_song 142 = .ok (.iastore, 1) := by decide +kernel
theorem dX11_song_143 : decode cX11_song 143 = .ok (.aload_n 0, 1) := by decide +kernel
theorem dX11_song_144 : decode cX11_song 144 = .ok (.getfield 23, 3) := by decide +kernel
theorem dX11_song_147 : decode cX11_song 147 = .ok (.iload_n 2, 1) := by decide +kernel
theorem dX11_song_148 : decode cX11_song 148 = .ok (.aload_n 0, 1) := by decide +kernel
theorem dX11_song_149 : decode cX11_song 149 = .ok (.getfield 35, 3) := by decide +kernel
theorem dX11_song_152 : decode cX11_song 152 = .ok (.iload_n 2, 1) := by decide +kernel
theorem dX11_song_153 : decode cX11_song 153 = .ok (.iaload, 1) := by decide +kernel
theorem dX11_song_154 : decode cX11_song 154 = .ok (.iastore, 1) := by decide +kernel
theorem dX11_song_155 : decode cX11_song 155 = .ok (.aload_n 0, 1) := by decide +kernel
theorem dX11_song_156 : decode cX11_song 156 = .ok (.getfield 26, 3) := by decide +kernel
theorem dX11_song_159 : decode cX11_song 159 = .ok (.iload_n 2, 1) := by decide +kernel
theorem dX11_song_160 : decode cX11_song 160 = .ok (.aload_n 0, 1) := by decide +kernel
theorem dX11_song_161 : decode cX11_song 161 = .ok (.getfield 38, 3) := by decide +kernel
theorem dX11_song_164 : decode cX11_song 164 = .ok (.iload_n 2, 1) := by decide +kernel
theorem dX11_song_165 : decode cX11_song 165 = .ok (.iaload, 1) := by decide +kernel
theorem dX11_song_166 : decode cX11_song 166 = .ok (.iastore, 1) := by decide +kernel
theorem dX11_song_167 : decode cX11_song 167 = .ok (.aload_n 0, 1) := by decide +kernel
theorem dX11_song_168 : decode cX11_song 168 = .ok (.getfield 29, 3) := by decide +kernel
theorem dX11_song_171 : decode cX11_song 171 = .ok (.iload_n 2, 1) := by decide +kernel
theorem dX11_song_172 : decode cX11_song 172 = .ok (.aload_n 0, 1) := by decide +kernel
theorem dX11_song_173 : decode cX11_song 173 = .ok (.getfield 41, 3) := by decide +kernel
theorem dX11_song_176 : decode cX11_song 176 = .ok (.iload_n 2, 1) := by decide +kernel
theorem dX11_song_177 : decode cX11_song 177 = .ok (.iaload, 1) := by decide +kernel
theorem dX11_song_178 : decode cX11_song 178 = .ok (.iastore, 1) := by decide +kernel
theorem dX11_song_179 : decode cX11_song 179 = .ok (.iinc 2 1, 3) := by decide +kernel
theorem dX11_song_182 : decode cX11_song 182 = .ok (.goto (-59), 3) := by decide +kernel
theorem dX11_song_185 : decode cX11_song 185 = .ok (.aload_n 0, 1) := by decide +kernel
theorem dX11_song_186 : decode cX11_song 186 = .ok (.invokevirtual 210, 3) := by decide +kernel
theorem dX11_song_189 : decode cX11_song 189 = .ok (.iconst 0, 1) := by decide +kernel
theorem dX11_song_190 : decode cX11_song 190 = .ok (.ireturn, 1) := by decide +kernel
theorem dX11_fault_0 : decode cX11_fault 0 = .ok (.aload_n 0, 1) := by decide +kernel
theorem dX11_fault_1 : decode cX11_fault 1 = .ok (.iconst 0, 1) := by decide +kernel
theorem dX11_fault_2 : decode cX11_fault 2 = .ok (.putfield 89, 3) := by decide +kernel
theorem dX11_fault_5 : decode cX11_fault 5 = .ok (.aload_n 0, 1) := by decide +kernel
theorem dX11_fault_6 : decode cX11_fault 6 = .ok (.iload_n 1, 1) := by decide +kernel
theorem dX11_fault_7 : decode cX11_fault 7 = .ok (.ifCond .eq 8, 3) := by decide +kernel
theorem dX11_fault_10 : decode cX11_fault 10 = .ok (.iload_n 1, 1) := by decide +kernel
theorem dX11_fault_11 : decode cX11_fault 11 = .ok (.iconst 1, 1) := by decide +kernel
theorem dX11_fault_12 : decode cX11_fault 12 = .ok (.if_icmp .ne 7, 3) := by decide +kernel
theorem dX11_fault_15 : decode cX11_fault 15 = .ok (.iconst 1, 1) := by decide +kernel
theorem dX11_fault_16 : decode cX11_fault 16 = .ok (.goto 4, 3) := by decide +kernel
theorem dX11_fault_19 : decode cX11_fault 19 = .ok (.iconst 0, 1) := by decide +kernel
theorem dX11_fault_20 : decode cX11_fault 20 = .ok (.iconst 1, 1) := by decide +kernel
theorem dX11_fault_21 : decode cX11_fault 21 = .ok (.invokevirtual 190, 3) := by decide +kernel
theorem dX11_fault_24 : decode cX11_fault 24 = .ok (.ifCond .ne 5, 3) := by decide +kernel
theorem dX11_fault_27 : decode cX11_fault 27 = .ok (.iconst 0, 1) := by decide +kernel
theorem dX11_fault_28 : decode cX11_fault 28 = .ok (.ireturn, 1) := by decide +kernel
theorem dX11_fault_29 : decode cX11_fault 29 = .ok (.iload_n 1, 1) := by decide +kernel
theorem dX11_fault_30 : decode cX11_fault 30 = .ok (.ifCond .ne 10, 3) := by decide +kernel
theorem dX11_fault_33 : decode cX11_fault 33 = .ok (.aload_n 0, 1) := by decide +kernel
theorem dX11_fault_34 : decode cX11_fault 34 = .ok (.getfield 137, 3) := by decide +kernel
theorem dX11_fault_37 : decode cX11_fault 37 = .ok (.goto 7, 3) := by decide +kernel
theorem dX11_fault_40 : decode cX11_fault 40 = .ok (.aload_n 0, 1) := by decide +kernel
theorem dX11_fault_41 : decode cX11_fault 41 = .ok (.getfield 13, 3) := by decide +kernel
theorem dX11_fault_44 : decode cX11_fault 44 = .ok (.ireturn, 1) := by decide +kernel
theorem dX11_key_0 : decode cX11_key 0 = .ok (.aload_n 0, 1) := by decide +kernel
theorem dX11_key_1 : decode cX11_key 1 = .ok (.iconst 0, 1) := by decide +kernel
theorem dX11_key_2 : decode cX11_key 2 = .ok (.putfield 89, 3) := by decide +kernel
theorem dX11_key_5 : decode cX11_key 5 = .ok (.aload_n 0, 1) := by decide +kernel
theorem dX11_key_6 : decode cX11_key 6 = .ok (.iload_n 1, 1) := by decide +kernel
theorem dX11_key_7 : decode cX11_key 7 = .ok (.bipush (-7), 2) := by decide +kernel
theorem dX11_key_9 : decode cX11_key 9 = .ok (.if_icmp .lt 13, 3) := by decide +kernel
theorem dX11_key_12 : decode cX11_key 12 = .ok (.iload_n 1, 1) := by decide +kernel
theorem dX11_key_13 : decode cX11_key 13 = .ok (.bipush 7, 2) := by decide +kernel
theorem dX11_key_15 : decode cX11_key 15 = .ok (.if_icmp .gt 7, 3) := by decide +kernel
theorem dX11_key_18 : decode cX11_key 18 = .ok (.iconst 1, 1) := by decide +kernel
theorem dX11_key_19 : decode cX11_key 19 = .ok (.goto 4, 3) := by decide +kernel
theorem dX11_key_22 : decode cX11_key 22 = .ok (.iconst 0, 1) := by decide +kernel
theorem dX11_key_23 : decode cX11_key 23 = .ok (.iconst 1, 1) := by decide +kernel
theorem dX11_key_24 : decode cX11_key 24 = .ok (.invokevirtual 190, 3) := by decide +kernel
theorem dX11_key_27 : decode cX11_key 27 = .ok (.ifCond .ne 5, 3) := by decide +kernel
theorem dX11_key_30 : decode cX11_key 30 = .ok (.iconst 0, 1) := by decide +kernel
theorem dX11_key_31 : decode cX11_key 31 = .ok (.ireturn, 1) := by decide +kernel
theorem dX11_key_32 : decode cX11_key 32 = .ok (.aload_n 0, 1) := by decide +kernel
theorem dX11_key_33 : decode cX11_key 33 = .ok (.getfield 213, 3) := by decide +kernel
theorem dX11_key_36 : decode cX11_key 36 = .ok (.istore_n 2, 1) := by decide +kernel
theorem dX11_key_37 : decode cX11_key 37 = .ok (.aload_n 0, 1) := by decide +kernel
theorem dX11_key_38 : decode cX11_key 38 = .ok (.iload_n 1, 1) := by decide +kernel
theorem dX11_key_39 : decode cX11_key 39 = .ok (.putfield 213, 3) := by decide +kernel
theorem dX11_key_42 : decode cX11_key 42 = .ok (.iload_n 2, 1) := by decide +kernel
theorem dX11_key_43 : decode cX11_key 43 = .ok (.ireturn, 1) := by decide +kernel
theorem dX11_within_0 : decode cX11_within 0 = .ok (.iload_n 0, 1) := by decide +kernel
theorem dX11_within_1 : decode cX11_within 1 = .ok (.istore_n 1, 1) := by decide +kernel
theorem dX11_within_2 : decode cX11_within 2 = .ok (.iload_n 1, 1) := by decide +kernel
theorem dX11_within_3 : decode cX11_within 3 = .ok (.bipush 19, 2) := by decide +kernel
theorem dX11_within_5 : decode cX11_within 5 = .ok (.if_icmp .le 9, 3) := by decide +kernel
theorem dX11_within_8 : decode cX11_within 8 = .ok (.iinc 1 (-12), 3) := by decide +kernel
theorem dX11_within_11 : decode cX11_within 11 = .ok (.goto (-9), 3) := by decide +kernel
theorem dX11_within_14 : decode cX11_within 14 = .ok (.iload_n 1, 1) := by decide +kernel
theorem dX11_within_15 : decode cX11_within 15 = .ok (.bipush (-15), 2) := by decide +kernel
theorem dX11_within_17 : decode cX11_within 17 = .ok (.if_icmp .ge 9, 3) := by decide +kernel
theorem dX11_within_20 : decode cX11_within 20 = .ok (.iinc 1 12, 3) := by decide +kernel
theorem dX11_within_23 : decode cX11_within 23 = .ok (.goto (-9), 3) := by decide +kernel
theorem dX11_within_26 : decode cX11_within 26 = .ok (.iload_n 1, 1) := by decide +kernel
theorem dX11_within_27 : decode cX11_within 27 = .ok (.ireturn, 1) := by decide +kernel
theorem dX11_move_0 : decode cX11_move 0 = .ok (.aload_n 0, 1) := by decide +kernel
theorem dX11_move_1 : decode cX11_move 1 = .ok (.iconst 0, 1) := by decide +kernel
theorem dX11_move_2 : decode cX11_move 2 = .ok (.putfield 89, 3) := by decide +kernel
theorem dX11_move_5 : decode cX11_move 5 = .ok (.aload_n 0, 1) := by decide +kernel
theorem dX11_move_6 : decode cX11_move 6 = .ok (.iload_n 1, 1) := by decide +kernel
theorem dX11_move_7 : decode cX11_move 7 = .ok (.bipush (-11), 2) := by decide +kernel
theorem dX11_move_9 : decode cX11_move 9 = .ok (.if_icmp .lt 13, 3) := by decide +kernel
theorem dX11_move_12 : decode cX11_move 12 = .ok (.iload_n 1, 1) := by decide +kernel
theorem dX11_move_13 : decode cX11_move 13 = .ok (.bipush 11, 2) := by decide +kernel
theorem dX11_move_15 : decode cX11_move 15 = .ok (.if_icmp .gt 7, 3) := by decide +kernel
theorem dX11_move_18 : decode cX11_move 18 = .ok (.iconst 1, 1) := by decide +kernel
theorem dX11_move_19 : decode cX11_move 19 = .ok (.goto 4, 3) := by decide +kernel
theorem dX11_move_22 : decode cX11_move 22 = .ok (.iconst 0, 1) := by decide +kernel
theorem dX11_move_23 : decode cX11_move 23 = .ok (.iconst 1, 1) := by decide +kernel
theorem dX11_move_24 : decode cX11_move 24 = .ok (.invokevirtual 190, 3) := by decide +kernel
theorem dX11_move_27 : decode cX11_move 27 = .ok (.ifCond .ne 5, 3) := by decide +kernel
theorem dX11_move_30 : decode cX11_move 30 = .ok (.iconst 0, 1) := by decide +kernel
theorem dX11_move_31 : decode cX11_move 31 = .ok (.ireturn, 1) := by decide +kernel
theorem dX11_move_32 : decode cX11_move 32 = .ok (.aload_n 0, 1) := by decide +kernel
theorem dX11_move_33 : decode cX11_move 33 = .ok (.getfield 213, 3) := by decide +kernel
theorem dX11_move_36 : decode cX11_move 36 = .ok (.bipush 7, 2) := by decide +kernel
theorem dX11_move_38 : decode cX11_move 38 = .ok (.iload_n 1, 1) := by decide +kernel
theorem dX11_move_39 : decode cX11_move 39 = .ok (.imul, 1) := by decide +kernel
theorem dX11_move_40 : decode cX11_move 40 = .ok (.iadd, 1) := by decide +kernel
theorem dX11_move_41 : decode cX11_move 41 = .ok (.istore_n 2, 1) := by decide +kernel
theorem dX11_move_42 : decode cX11_move 42 = .ok (.iload_n 2, 1) := by decide +kernel
theorem dX11_move_43 : decode cX11_move 43 = .ok (.bipush 6, 2) := by decide +kernel
theorem dX11_move_45 : decode cX11_move 45 = .ok (.if_icmp .le 9, 3) := by decide +kernel
theorem dX11_move_48 : decode cX11_move 48 = .ok (.iinc 2 (-12), 3) := by decide +kernel
theorem dX11_move_51 : decode cX11_move 51 = .ok (.goto (-9), 3) := by decide +kernel
theorem dX11_move_54 : decode cX11_move 54 = .ok (.iload_n 2, 1) := by decide +kernel
theorem dX11_move_55 : decode cX11_move 55 = .ok (.bipush (-5), 2) := by decide +kernel
theorem dX11_move_57 : decode cX11_move 57 = .ok (.if_icmp .ge 9, 3) := by decide +kernel
theorem dX11_move_60 : decode cX11_move 60 = .ok (.iinc 2 12, 3) := by decide +kernel
theorem dX11_move_63 : decode cX11_move 63 = .ok (.goto (-9), 3) := by decide +kernel
theorem dX11_move_66 : decode cX11_move 66 = .ok (.iconst 0, 1) := by decide +kernel
theorem dX11_move_67 : decode cX11_move 67 = .ok (.istore_n 3, 1) := by decide +kernel
theorem dX11_move_68 : decode cX11_move 68 = .ok (.iload_n 3, 1) := by decide +kernel
theorem dX11_move_69 : decode cX11_move 69 = .ok (.aload_n 0, 1) := by decide +kernel
theorem dX11_move_70 : decode cX11_move 70 = .ok (.getfield 197, 3) := by decide +kernel
theorem dX11_move_73 : decode cX11_move 73 = .ok (.if_icmp .ge 53, 3) := by decide +kernel
theorem dX11_move_76 : decode cX11_move 76 = .ok (.aload_n 0, 1) := by decide +kernel
theorem dX11_move_77 : decode cX11_move 77 = .ok (.getfield 20, 3) := by decide +kernel
theorem dX11_move_80 : decode cX11_move 80 = .ok (.iload_n 3, 1) := by decide +kernel
theorem dX11_move_81 : decode cX11_move 81 = .ok (.aload_n 0, 1) := by decide +kernel
theorem dX11_move_82 : decode cX11_move 82 = .ok (.getfield 20, 3) := by decide +kernel
theorem dX11_move_85 : decode cX11_move 85 = .ok (.iload_n 3, 1) := by decide +kernel
theorem dX11_move_86 : decode cX11_move 86 = .ok (.iaload, 1) := by decide +kernel
theorem dX11_move_87 : decode cX11_move 87 = .ok (.iload_n 2, 1) := by decide +kernel
theorem dX11_move_88 : decode cX11_move 88 = .ok (.iadd, 1) := by decide +kernel
theorem dX11_move_89 : decode cX11_move 89 = .ok (.aload_n 0, 1) := by decide +kernel
theorem dX11_move_90 : decode cX11_move 90 = .ok (.getfield 213, 3) := by decide +kernel
theorem dX11_move_93 : decode cX11_move 93 = .ok (.isub, 1) := by decide +kernel
theorem dX11_move_94 : decode cX11_move 94 = .ok (.invokestatic 216, 3) := by decide +kernel
theorem dX11_move_97 : decode cX11_move 97 = .ok (.iastore, 1) := by decide +kernel
theorem dX11_move_98 : decode cX11_move 98 = .ok (.aload_n 0, 1) := by decide +kernel
theorem dX11_move_99 : decode cX11_move 99 = .ok (.getfield 26, 3) := by decide +kernel
theorem dX11_move_102 : decode cX11_move 102 = .ok (.iload_n 3, 1) := by decide +kernel
theorem dX11_move_103 : decode cX11_move 103 = .ok (.aload_n 0, 1) := by decide +kernel
theorem dX11_move_104 : decode cX11_move 104 = .ok (.getfield 26, 3) := by decide +kernel
theorem dX11_move_107 : decode cX11_move 107 = .ok (.iload_n 3, 1) := by decide +kernel
theorem dX11_move_108 : decode cX11_move 108 = .ok (.iaload, 1) := by decide +kernel
theorem dX11_move_109 : decode cX11_move 109 = .ok (.iload_n 2, 1) := by decide +kernel
theorem dX11_move_110 : decode cX11_move 110 = .ok (.iadd, 1) := by decide +kernel
theorem dX11_move_111 : decode cX11_move 111 = .ok (.aload_n 0, 1) := by decide +kernel
theorem dX11_move_112 : decode cX11_move 112 = .ok (.getfield 213, 3) := by decide +kernel
theorem dX11_move_115 : decode cX11_move 115 = .ok (.isub, 1) := by decide +kernel
theorem dX11_move_116 : decode cX11_move 116 = .ok (.invokestatic 216, 3) := by decide +kernel
theorem dX11_move_119 : decode cX11_move 119 = .ok (.iastore, 1) := by decide +kernel
theorem dX11_move_120 : decode cX11_move 120 = .ok (.iinc 3 1, 3) := by decide +kernel
theorem dX11_move_123 : decode cX11_move 123 = .ok (.goto (-55), 3) := by decide +kernel
theorem dX11_move_126 : decode cX11_move 126 = .ok (.aload_n 0, 1) := by decide +kernel
theorem dX11_move_127 : decode cX11_move 127 = .ok (.iload_n 2, 1) := by decide +kernel
theorem dX11_move_128 : decode cX11_move 128 = .ok (.putfield 213, 3) := by decide +kernel
theorem dX11_move_131 : decode cX11_move 131 = .ok (.aload_n 0, 1) := by decide +kernel
theorem dX11_move_132 : decode cX11_move 132 = .ok (.invokevirtual 210, 3) := by decide +kernel
theorem dX11_move_135 : decode cX11_move 135 = .ok (.aload_n 0, 1) := by decide +kernel
theorem dX11_move_136 : decode cX11_move 136 = .ok (.getfield 213, 3) := by decide +kernel
theorem dX11_move_139 : decode cX11_move 139 = .ok (.ireturn, 1) := by decide +kernel
theorem dX11_isChord_0 : decode cX11_isChord 0 = .ok (.aload_n 0, 1) := by decide +kernel
theorem dX11_isChord_1 : decode cX11_isChord 1 = .ok (.iconst 0, 1) := by decide +kernel
theorem dX11_isChord_2 : decode cX11_isChord 2 = .ok (.putfield 89, 3) := by decide +kernel
theorem dX11_isChord_5 : decode cX11_isChord 5 = .ok (.aload_n 0, 1) := by decide +kernel
theorem dX11_isChord_6 : decode cX11_isChord 6 = .ok (.iload_n 1, 1) := by decide +kernel
theorem dX11_isChord_7 : decode cX11_isChord 7 = .ok (.ifCond .lt 15, 3) := by decide +kernel
theorem dX11_isChord_10 : decode cX11_isChord 10 = .ok (.iload_n 1, 1) := by decide +kernel
theorem dX11_isChord_11 : decode cX11_isChord 11 = .ok (.aload_n 0, 1) := by decide +kernel
theorem dX11_isChord_12 : decode cX11_isChord 12 = .ok (.getfield 197, 3) := by decide +kernel
theorem dX11_isChord_15 : decode cX11_isChord 15 = .ok (.if_icmp .ge 7, 3) := by decide +kernel
theorem dX11_isChord_18 : decode cX11_isChord 18 = .ok (.iconst 1, 1) := by decide +kernel
theorem dX11_isChord_19 : decode cX11_isChord 19 = .ok (.goto 4, 3) := by decide +kernel
theorem dX11_isChord_22 : decode cX11_isChord 22 = .ok (.iconst 0, 1) := by decide +kernel
theorem dX11_isChord_23 : decode cX11_isChord 23 = .ok (.iconst 1, 1) := by decide +kernel
theorem dX11_isChord_24 : decode cX11_isChord 24 = .ok (.invokevirtual 190, 3) := by decide +kernel
theorem dX11_isChord_27 : decode cX11_isChord 27 = .ok (.ireturn, 1) := by decide +kernel
theorem dX11_chord_0 : decode cX11_chord 0 = .ok (.aload_n 0, 1) := by decide +kernel
theorem dX11_chord_1 : decode cX11_chord 1 = .ok (.iload_n 1, 1) := by decide +kernel
theorem dX11_chord_2 : decode cX11_chord 2 = .ok (.invokevirtual 219, 3) := by decide +kernel
theorem dX11_chord_5 : decode cX11_chord 5 = .ok (.ifCond .eq 25, 3) := by decide +kernel
theorem dX11_chord_8 : decode cX11_chord 8 = .ok (.aload_n 0, 1) := by decide +kernel
theorem dX11_chord_9 : decode cX11_chord 9 = .ok (.iload_n 2, 1) := by decide +kernel
theorem dX11_chord_10 : decode cX11_chord 10 = .ok (.ifCond .lt 12, 3) := by decide +kernel
theorem dX11_chord_13 : decode cX11_chord 13 = .ok (.iload_n 2, 1) := by decide +kernel
theorem dX11_chord_14 : decode cX11_chord 14 = .ok (.iconst 4, 1) := by decide +kernel
theorem dX11_chord_15 : decode cX11_chord 15 = .ok (.if_icmp .gt 7, 3) := by decide +kernel
theorem dX11_chord_18 : decode cX11_chord 18 = .ok (.iconst 1, 1) := by decide +kernel
theorem dX11_chord_19 : decode cX11_chord 19 = .ok (.goto 4, 3) := by decide +kernel
theorem dX11_chord_22 : decode cX11_chord 22 = .ok (.iconst 0, 1) := by decide +kernel
theorem dX11_chord_23 : decode cX11_chord 23 = .ok (.iconst 1, 1) := by decide +kernel
theorem dX11_chord_24 : decode cX11_chord 24 = .ok (.invokevirtual 190, 3) := by decide +kernel
theorem dX11_chord_27 : decode cX11_chord 27 = .ok (.ifCond .ne 5, 3) := by decide +kernel
theorem dX11_chord_30 : decode cX11_chord 30 = .ok (.iconst 0, 1) := by decide +kernel
theorem dX11_chord_31 : decode cX11_chord 31 = .ok (.ireturn, 1) := by decide +kernel
theorem dX11_chord_32 : decode cX11_chord 32 = .ok (.iload_n 2, 1) := by decide +kernel
theorem dX11_chord_33 : decode cX11_chord 33 = .ok (.tableswitch 58 0 3 #[31, 38, 45, 52], 31) := by decide +kernel
theorem dX11_chord_64 : decode cX11_chord 64 = .ok (.aload_n 0, 1) := by decide +kernel
theorem dX11_chord_65 : decode cX11_chord 65 = .ok (.getfield 20, 3) := by decide +kernel
theorem dX11_chord_68 : decode cX11_chord 68 = .ok (.iload_n 1, 1) := by decide +kernel
theorem dX11_chord_69 : decode cX11_chord 69 = .ok (.iaload, 1) := by decide +kernel
theorem dX11_chord_70 : decode cX11_chord 70 = .ok (.ireturn, 1) := by decide +kernel
theorem dX11_chord_71 : decode cX11_chord 71 = .ok (.aload_n 0, 1) := by decide +kernel
theorem dX11_chord_72 : decode cX11_chord 72 = .ok (.getfield 23, 3) := by decide +kernel
theorem dX11_chord_75 : decode cX11_chord 75 = .ok (.iload_n 1, 1) := by decide +kernel
theorem dX11_chord_76 : decode cX11_chord 76 = .ok (.iaload, 1) := by decide +kernel
theorem dX11_chord_77 : decode cX11_chord 77 = .ok (.ireturn, 1) := by decide +kernel
theorem dX11_chord_78 : decode cX11_chord 78 = .ok (.aload_n 0, 1) := by decide +kernel
theorem dX11_chord_79 : decode cX11_chord 79 = .ok (.getfield 26, 3) := by decide +kernel
theorem dX11_chord_82 : decode cX11_chord 82 = .ok (.iload_n 1, 1) := by decide +kernel
theorem dX11_chord_83 : decode cX11_chord 83 = .ok (.iaload, 1) := by decide +kernel
theorem dX11_chord_84 : decode cX11_chord 84 = .ok (.ireturn, 1) := by decide +kernel
theorem dX11_chord_85 : decode cX11_chord 85 = .ok (.aload_n 0, 1) := by decide +kernel
theorem dX11_chord_86 : decode cX11_chord 86 = .ok (.iload_n 1, 1) := by decide +kernel
theorem dX11_chord_87 : decode cX11_chord 87 = .ok (.invokevirtual 223, 3) := by decide +kernel
theorem dX11_chord_90 : decode cX11_chord 90 = .ok (.ireturn, 1) := by decide +kernel
theorem dX11_chord_91 : decode cX11_chord 91 = .ok (.aload_n 0, 1) := by decide +kernel
theorem dX11_chord_92 : decode cX11_chord 92 = .ok (.getfield 29, 3) := by decide +kernel
theorem dX11_chord_95 : decode cX11_chord 95 = .ok (.iload_n 1, 1) := by decide +kernel
theorem dX11_chord_96 : decode cX11_chord 96 = .ok (.iaload, 1) := by decide +kernel
theorem dX11_chord_97 : decode cX11_chord 97 = .ok (.ireturn, 1) := by decide +kernel
theorem dX11_add_0 : decode cX11_add 0 = .ok (.aload_n 0, 1) := by decide +kernel
theorem dX11_add_1 : decode cX11_add 1 = .ok (.getfield 59, 3) := by decide +kernel
theorem dX11_add_4 : decode cX11_add 4 = .ok (.aload_n 0, 1) := by decide +kernel
theorem dX11_add_5 : decode cX11_add 5 = .ok (.getfield 226, 3) := by decide +kernel
theorem dX11_add_8 : decode cX11_add 8 = .ok (.iload_n 1, 1) := by decide +kernel
theorem dX11_add_9 : decode cX11_add 9 = .ok (.iastore, 1) := by decide +kernel
theorem dX11_add_10 : decode cX11_add 10 = .ok (.aload_n 0, 1) := by decide +kernel
theorem dX11_add_11 : decode cX11_add 11 = .ok (.dup, 1) := by decide +kernel
theorem dX11_add_12 : decode cX11_add 12 = .ok (.getfield 226, 3) := by decide +kernel
theorem dX11_add_15 : decode cX11_add 15 = .ok (.iconst 1, 1) := by decide +kernel
theorem dX11_add_16 : decode cX11_add 16 = .ok (.iadd, 1) := by decide +kernel
theorem dX11_add_17 : decode cX11_add 17 = .ok (.putfield 226, 3) := by decide +kernel
theorem dX11_add_20 : decode cX11_add 20 = .ok (.return_, 1) := by decide +kernel
theorem dX11_addNote_0 : decode cX11_addNote 0 = .ok (.iload_n 1, 1) := by decide +kernel
theorem dX11_addNote_1 : decode cX11_addNote 1 = .ok (.bipush 15, 2) := by decide +kernel
theorem dX11_addNote_3 : decode cX11_addNote 3 = .ok (.iadd, 1) := by decide +kernel
theorem dX11_addNote_4 : decode cX11_addNote 4 = .ok (.bipush 7, 2) := by decide +kernel
theorem dX11_addNote_6 : decode cX11_addNote 6 = .ok (.idiv, 1) := by decide +kernel
theorem dX11_addNote_7 : decode cX11_addNote 7 = .ok (.iconst 2, 1) := by decide +kernel
theorem dX11_addNote_8 : decode cX11_addNote 8 = .ok (.isub, 1) := by decide +kernel
theorem dX11_addNote_9 : decode cX11_addNote 9 = .ok (.istore_n 2, 1) := by decide +kernel
theorem dX11_addNote_10 : decode cX11_addNote 10 = .ok (.aload_n 0, 1) := by decide +kernel
theorem dX11_addNote_11 : decode cX11_addNote 11 = .ok (.ldc 229, 2) := by decide +kernel
theorem dX11_addNote_13 : decode cX11_addNote 13 = .ok (.iload_n 1, 1) := by decide +kernel
theorem dX11_addNote_14 : decode cX11_addNote 14 = .ok (.iconst 1, 1) := by decide +kernel
theorem dX11_addNote_15 : decode cX11_addNote 15 = .ok (.iadd, 1) := by decide +kernel
theorem dX11_addNote_16 : decode cX11_addNote 16 = .ok (.bipush 7, 2) := by decide +kernel
theorem dX11_addNote_18 : decode cX11_addNote 18 = .ok (.iload_n 2, 1) := by decide +kernel
theorem dX11_addNote_19 : decode cX11_addNote 19 = .ok (.imul, 1) := by decide +kernel
theorem dX11_addNote_20 : decode cX11_addNote 20 = .ok (.isub, 1) := by decide +kernel
theorem dX11_addNote_21 : decode cX11_addNote 21 = .ok (.invokevirtual 162, 3) := by decide +kernel
theorem dX11_addNote_24 : decode cX11_addNote 24 = .ok (.invokevirtual 231, 3) := by decide +kernel
theorem dX11_addNote_27 : decode cX11_addNote 27 = .ok (.iconst 0, 1) := by decide +kernel
theorem dX11_addNote_28 : decode cX11_addNote 28 = .ok (.istore_n 3, 1) := by decide +kernel
theorem dX11_addNote_29 : decode cX11_addNote 29 = .ok (.iload_n 3, 1) := by decide +kernel
theorem dX11_addNote_30 : decode cX11_addNote 30 = .ok (.iload_n 2, 1) := by decide +kernel
theorem dX11_addNote_31 : decode cX11_addNote 31 = .ok (.if_icmp .ge 15, 3) := by decide +kernel
theorem dX11_addNote_34 : decode cX11_addNote 34 = .ok (.aload_n 0, 1) := by decide +kernel
theorem dX11_addNote_35 : decode cX11_addNote 35 = .ok (.bipush 35, 2) := by decide +kernel
theorem dX11_addNote_37 : decode cX11_addNote 37 = .ok (.invokevirtual 231, 3) := by decide +kernel
theorem dX11_addNote_40 : decode cX11_addNote 40 = .ok (.iinc 3 1, 3) := by decide +kernel
theorem dX11_addNote_43 : decode cX11_addNote 43 = .ok (.goto (-14), 3) := by decide +kernel
theorem dX11_addNote_46 : decode cX11_addNote 46 = .ok (.iload_n 2, 1) := by decide +kernel
theorem dX11_addNote_47 : decode cX11_addNote 47 = .ok (.istore_n 3, 1) := by decide +kernel
theorem dX11_addNote_48 : decode cX11_addNote 48 = .ok (.iload_n 3, 1) := by decide +kernel
theorem dX11_addNote_49 : decode cX11_addNote 49 = .ok (.ifCond .ge 15, 3) := by decide +kernel
theorem dX11_addNote_52 : decode cX11_addNote 52 = .ok (.aload_n 0, 1) := by decide +kernel
theorem dX11_addNote_53 : decode cX11_addNote 53 = .ok (.bipush 98, 2) := by decide +kernel
theorem dX11_addNote_55 : decode cX11_addNote 55 = .ok (.invokevirtual 231, 3) := by decide +kernel
theorem dX11_addNote_58 : decode cX11_addNote 58 = .ok (.iinc 3 1, 3) := by decide +kernel
theorem dX11_addNote_61 : decode cX11_addNote 61 = .ok (.goto (-13), 3) := by decide +kernel
theorem dX11_addNote_64 : decode cX11_addNote 64 = .ok (.return_, 1) := by decide +kernel
theorem dX11_names_0 : decode cX11_names 0 = .ok (.aload_n 0, 1) := by decide +kernel
theorem dX11_names_1 : decode cX11_names 1 = .ok (.iconst 0, 1) := by decide +kernel
theorem dX11_names_2 : decode cX11_names 2 = .ok (.putfield 226, 3) := by decide +kernel
theorem dX11_names_5 : decode cX11_names 5 = .ok (.aload_n 0, 1) := by decide +kernel
theorem dX11_names_6 : decode cX11_names 6 = .ok (.aload_n 0, 1) := by decide +kernel
theorem dX11_names_7 : decode cX11_names 7 = .ok (.getfield 20, 3) := by decide +kernel
theorem dX11_names_10 : decode cX11_names 10 = .ok (.iload_n 1, 1) := by decide +kernel
theorem dX11_names_11 : decode cX11_names 11 = .ok (.iaload, 1) := by decide +kernel
theorem dX11_names_12 : decode cX11_names 12 = .ok (.invokevirtual 234, 3) := by decide +kernel
theorem dX11_names_15 : decode cX11_names 15 = .ok (.aload_n 0, 1) := by decide +kernel
theorem dX11_names_16 : decode cX11_names 16 = .ok (.getfield 23, 3) := by decide +kernel
theorem dX11_names_19 : decode cX11_names 19 = .ok (.iload_n 1, 1) := by decide +kernel
theorem dX11_names_20 : decode cX11_names 20 = .ok (.iaload, 1) := by decide +kernel
theorem dX11_names_21 : decode cX11_names 21 = .ok (.invokestatic 173, 3) := by decide +kernel
theorem dX11_names_24 : decode cX11_names 24 = .ok (.astore_n 2, 1) := by decide +kernel
theorem dX11_names_25 : decode cX11_names 25 = .ok (.iconst 0, 1) := by decide +kernel
theorem dX11_names_26 : decode cX11_names 26 = .ok (.istore_n 3, 1) := by decide +kernel
theorem dX11_names_27 : decode cX11_names 27 = .ok (.iload_n 3, 1) := by decide +kernel
theorem dX11_names_28 : decode cX11_names 28 = .ok (.aload_n 2, 1) := by decide +kernel
theorem dX11_names_29 : decode cX11_names 29 = .ok (.invokevirtual 156, 3) := by decide +kernel
theorem dX11_names_32 : decode cX11_names 32 = .ok (.if_icmp .ge 18, 3) := by decide +kernel
theorem dX11_names_35 : decode cX11_names 35 = .ok (.aload_n 0, 1) := by decide +kernel
theorem dX11_names_36 : decode cX11_names 36 = .ok (.aload_n 2, 1) := by decide +kernel
theorem dX11_names_37 : decode cX11_names 37 = .ok (.iload_n 3, 1) := by decide +kernel
theorem dX11_names_38 : decode cX11_names 38 = .ok (.invokevirtual 162, 3) := by decide +kernel
theorem dX11_names_41 : decode cX11_names 41 = .ok (.invokevirtual 231, 3) := by decide +kernel
theorem dX11_names_44 : decode cX11_names 44 = .ok (.iinc 3 1, 3) := by decide +kernel
theorem dX11_names_47 : decode cX11_names 47 = .ok (.goto (-20), 3) := by decide +kernel
theorem dX11_names_50 : decode cX11_names 50 = .ok (.aload_n 0, 1) := by decide +kernel
theorem dX11_names_51 : decode cX11_names 51 = .ok (.getfield 26, 3) := by decide +kernel
theorem dX11_names_54 : decode cX11_names 54 = .ok (.iload_n 1, 1) := by decide +kernel
theorem dX11_names_55 : decode cX11_names 55 = .ok (.iaload, 1) := by decide +kernel
theorem dX11_names_56 : decode cX11_names 56 = .ok (.aload_n 0, 1) := by decide +kernel
theorem dX11_names_57 : decode cX11_names 57 = .ok (.getfield 20, 3) := by decide +kernel
theorem dX11_names_60 : decode cX11_names 60 = .ok (.iload_n 1, 1) := by decide +kernel
theorem dX11_names_61 : decode cX11_names 61 = .ok (.iaload, 1) := by decide +kernel
theorem dX11_names_62 : decode cX11_names 62 = .ok (.if_icmp .ne 4, 3) := by decide +kernel
theorem dX11_names_65 : decode cX11_names 65 = .ok (.return_, 1) := by decide +kernel
theorem dX11_names_66 : decode cX11_names 66 = .ok (.aload_n 0, 1) := by decide +kernel
theorem dX11_names_67 : decode cX11_names 67 = .ok (.bipush 47, 2) := by decide +kernel
theorem dX11_names_69 : decode cX11_names 69 = .ok (.invokevirtual 231, 3) := by decide +kernel
theorem dX11_names_72 : decode cX11_names 72 = .ok (.aload_n 0, 1) := by decide +kernel
theorem dX11_names_73 : decode cX11_names 73 = .ok (.aload_n 0, 1) := by decide +kernel
theorem dX11_names_74 : decode cX11_names 74 = .ok (.getfield 26, 3) := by decide +kernel
theorem dX11_names_77 : decode cX11_names 77 = .ok (.iload_n 1, 1) := by decide +kernel
theorem dX11_names_78 : decode cX11_names 78 = .ok (.iaload, 1) := by decide +kernel
theorem dX11_names_79 : decode cX11_names 79 = .ok (.invokevirtual 234, 3) := by decide +kernel
theorem dX11_names_82 : decode cX11_names 82 = .ok (.return_, 1) := by decide +kernel
theorem dX11_says_0 : decode cX11_says 0 = .ok (.aload_n 0, 1) := by decide +kernel
theorem dX11_says_1 : decode cX11_says 1 = .ok (.getfield 237, 3) := by decide +kernel
theorem dX11_says_4 : decode cX11_says 4 = .ok (.sipush 4000, 3) := by decide +kernel
theorem dX11_says_7 : decode cX11_says 7 = .ok (.if_icmp .ge 13, 3) := by decide +kernel
theorem dX11_says_10 : decode cX11_says 10 = .ok (.aload_n 0, 1) := by decide +kernel
theorem dX11_says_11 : decode cX11_says 11 = .ok (.getfield 56, 3) := by decide +kernel
theorem dX11_says_14 : decode cX11_says 14 = .ok (.aload_n 0, 1) := by decide +kernel
theorem dX11_says_15 : decode cX11_says 15 = .ok (.getfield 237, 3) := by decide +kernel
theorem dX11_says_18 : decode cX11_says 18 = .ok (.iload_n 1, 1) := by decide +kernel
theorem dX11_says_19 : decode cX11_says 19 = .ok (.iastore, 1) := by decide +kernel
theorem dX11_says_20 : decode cX11_says 20 = .ok (.aload_n 0, 1) := by decide +kernel
theorem dX11_says_21 : decode cX11_says 21 = .ok (.dup, 1) := by decide +kernel
theorem dX11_says_22 : decode cX11_says 22 = .ok (.getfield 237, 3) := by decide +kernel
theorem dX11_says_25 : decode cX11_says 25 = .ok (.iconst 1, 1) := by decide +kernel
theorem dX11_says_26 : decode cX11_says 26 = .ok (.iadd, 1) := by decide +kernel
theorem dX11_says_27 : decode cX11_says 27 = .ok (.putfield 237, 3) := by decide +kernel
theorem dX11_says_30 : decode cX11_says 30 = .ok (.return_, 1) := by decide +kernel
theorem dX11_kept_0 : decode cX11_kept 0 = .ok (.aload_n 0, 1) := by decide +kernel
theorem dX11_kept_1 : decode cX11_kept 1 = .ok (.getfield 237, 3) := by decide +kernel
theorem dX11_kept_4 : decode cX11_kept 4 = .ok (.sipush 4000, 3) := by decide +kernel
theorem dX11_kept_7 : decode cX11_kept 7 = .ok (.if_icmp .ge 10, 3) := by decide +kernel
theorem dX11_kept_10 : decode cX11_kept 10 = .ok (.aload_n 0, 1) := by decide +kernel
theorem dX11_kept_11 : decode cX11_kept 11 = .ok (.getfield 237, 3) := by decide +kernel
theorem dX11_kept_14 : decode cX11_kept 14 = .ok (.goto 6, 3) := by decide +kernel
theorem dX11_kept_17 : decode cX11_kept 17 = .ok (.sipush 4000, 3) := by decide +kernel
theorem dX11_kept_20 : decode cX11_kept 20 = .ok (.ireturn, 1) := by decide +kernel
theorem dX11_name_0 : decode cX11_name 0 = .ok (.aload_n 0, 1) := by decide +kernel
theorem dX11_name_1 : decode cX11_name 1 = .ok (.iload_n 1, 1) := by decide +kernel
theorem dX11_name_2 : decode cX11_name 2 = .ok (.invokevirtual 219, 3) := by decide +kernel
theorem dX11_name_5 : decode cX11_name 5 = .ok (.ifCond .ne 5, 3) := by decide +kernel
theorem dX11_name_8 : decode cX11_name 8 = .ok (.iconst 0, 1) := by decide +kernel
theorem dX11_name_9 : decode cX11_name 9 = .ok (.ireturn, 1) := by decide +kernel
theorem dX11_name_10 : decode cX11_name 10 = .ok (.aload_n 0, 1) := by decide +kernel
theorem dX11_name_11 : decode cX11_name 11 = .ok (.iload_n 1, 1) := by decide +kernel
theorem dX11_name_12 : decode cX11_name 12 = .ok (.invokevirtual 240, 3) := by decide +kernel
theorem dX11_name_15 : decode cX11_name 15 = .ok (.aload_n 0, 1) := by decide +kernel
theorem dX11_name_16 : decode cX11_name 16 = .ok (.iconst 0, 1) := by decide +kernel
theorem dX11_name_17 : decode cX11_name 17 = .ok (.putfield 237, 3) := by decide +kernel
theorem dX11_name_20 : decode cX11_name 20 = .ok (.iconst 0, 1) := by decide +kernel
theorem dX11_name_21 : decode cX11_name 21 = .ok (.istore_n 2, 1) := by decide +kernel
theorem dX11_name_22 : decode cX11_name 22 = .ok (.iload_n 2, 1) := by decide +kernel
theorem dX11_name_23 : decode cX11_name 23 = .ok (.aload_n 0, 1) := by decide +kernel
theorem dX11_name_24 : decode cX11_name 24 = .ok (.getfield 226, 3) := by decide +kernel
theorem dX11_name_27 : decode cX11_name 27 = .ok (.if_icmp .ge 19, 3) := by decide +kernel
theorem dX11_name_30 : decode cX11_name 30 = .ok (.aload_n 0, 1) := by decide +kernel
theorem dX11_name_31 : decode cX11_name 31 = .ok (.aload_n 0, 1) := by decide +kernel
theorem dX11_name_32 : decode cX11_name 32 = .ok (.getfield 59, 3) := by decide +kernel
theorem dX11_name_35 : decode cX11_name 35 = .ok (.iload_n 2, 1) := by decide +kernel
theorem dX11_name_36 : decode cX11_name 36 = .ok (.iaload, 1) := by decide +kernel
theorem dX11_name_37 : decode cX11_name 37 = .ok (.invokevirtual 243, 3) := by decide +kernel
theorem dX11_name_40 : decode cX11_name 40 = .ok (.iinc 2 1, 3) := by decide +kernel
theorem dX11_name_43 : decode cX11_name 43 = .ok (.goto (-21), 3) := by decide +kernel
theorem dX11_name_46 : decode cX11_name 46 = .ok (.aload_n 0, 1) := by decide +kernel
theorem dX11_name_47 : decode cX11_name 47 = .ok (.getfield 237, 3) := by decide +kernel
theorem dX11_name_50 : decode cX11_name 50 = .ok (.ireturn, 1) := by decide +kernel
theorem dX11_isLetter_0 : decode cX11_isLetter 0 = .ok (.iload_n 0, 1) := by decide +kernel
theorem dX11_isLetter_1 : decode cX11_isLetter 1 = .ok (.bipush 65, 2) := by decide +kernel
theorem dX11_isLetter_3 : decode cX11_isLetter 3 = .ok (.if_icmp .lt 9, 3) := by decide +kernel
theorem dX11_isLetter_6 : decode cX11_isLetter 6 = .ok (.iload_n 0, 1) := by decide +kernel
theorem dX11_isLetter_7 : decode cX11_isLetter 7 = .ok (.bipush 90, 2) := by decide +kernel
theorem dX11_isLetter_9 : decode cX11_isLetter 9 = .ok (.if_icmp .le 15, 3) := by decide +kernel
theorem dX11_isLetter_12 : decode cX11_isLetter 12 = .ok (.iload_n 0, 1) := by decide +kernel
theorem dX11_isLetter_13 : decode cX11_isLetter 13 = .ok (.bipush 97, 2) := by decide +kernel
theorem dX11_isLetter_15 : decode cX11_isLetter 15 = .ok (.if_icmp .lt 13, 3) := by decide +kernel
theorem dX11_isLetter_18 : decode cX11_isLetter 18 = .ok (.iload_n 0, 1) := by decide +kernel
theorem dX11_isLetter_19 : decode cX11_isLetter 19 = .ok (.bipush 122, 2) := by decide +kernel
theorem dX11_isLetter_21 : decode cX11_isLetter 21 = .ok (.if_icmp .gt 7, 3) := by decide +kernel
theorem dX11_isLetter_24 : decode cX11_isLetter 24 = .ok (.iconst 1, 1) := by decide +kernel
theorem dX11_isLetter_25 : decode cX11_isLetter 25 = .ok (.goto 4, 3) := by decide +kernel
theorem dX11_isLetter_28 : decode cX11_isLetter 28 = .ok (.iconst 0, 1) := by decide +kernel
theorem dX11_isLetter_29 : decode cX11_isLetter 29 = .ok (.ireturn, 1) := by decide +kernel
theorem dX11_nextWord_0 : decode cX11_nextWord 0 = .ok (.iload_n 1, 1) := by decide +kernel
theorem dX11_nextWord_1 : decode cX11_nextWord 1 = .ok (.istore_n 2, 1) := by decide +kernel
theorem dX11_nextWord_2 : decode cX11_nextWord 2 = .ok (.iload_n 2, 1) := by decide +kernel
theorem dX11_nextWord_3 : decode cX11_nextWord 3 = .ok (.aload_n 0, 1) := by decide +kernel
theorem dX11_nextWord_4 : decode cX11_nextWord 4 = .ok (.getfield 203, 3) := by decide +kernel
theorem dX11_nextWord_7 : decode cX11_nextWord 7 = .ok (.if_icmp .ge 18, 3) := by decide +kernel
theorem dX11_nextWord_10 : decode cX11_nextWord 10 = .ok (.aload_n 0, 1) := by decide +kernel
theorem dX11_nextWord_11 : decode cX11_nextWord 11 = .ok (.getfield 44, 3) := by decide +kernel
theorem dX11_nextWord_14 : decode cX11_nextWord 14 = .ok (.iload_n 2, 1) := by decide +kernel
theorem dX11_nextWord_15 : decode cX11_nextWord 15 = .ok (.iaload, 1) := by decide +kernel
theorem dX11_nextWord_16 : decode cX11_nextWord 16 = .ok (.ifCond .ge 9, 3) := by decide +kernel
theorem dX11_nextWord_19 : decode cX11_nextWord 19 = .ok (.iinc 2 1, 3) := by decide +kernel
theorem dX11_nextWord_22 : decode cX11_nextWord 22 = .ok (.goto (-20), 3) := by decide +kernel
theorem dX11_nextWord_25 : decode cX11_nextWord 25 = .ok (.iload_n 2, 1) := by decide +kernel
theorem dX11_nextWord_26 : decode cX11_nextWord 26 = .ok (.aload_n 0, 1) := by decide +kernel
theorem dX11_nextWord_27 : decode cX11_nextWord 27 = .ok (.getfield 203, 3) := by decide +kernel
theorem dX11_nextWord_30 : decode cX11_nextWord 30 = .ok (.if_icmp .ge 23, 3) := by decide +kernel
theorem dX11_nextWord_33 : decode cX11_nextWord 33 = .ok (.aload_n 0, 1) := by decide +kernel
theorem dX11_nextWord_34 : decode cX11_nextWord 34 = .ok (.getfield 44, 3) := by decide +kernel
theorem dX11_nextWord_37 : decode cX11_nextWord 37 = .ok (.iload_n 2, 1) := by decide +kernel
theorem dX11_nextWord_38 : decode cX11_nextWord 38 = .ok (.iaload, 1) := by decide +kernel
theorem dX11_nextWord_39 : decode cX11_nextWord 39 = .ok (.bipush 10, 2) := by decide +kernel
theorem dX11_nextWord_41 : decode cX11_nextWord 41 = .ok (.if_icmp .eq 12, 3) := by decide +kernel
theorem dX11_nextWord_44 : decode cX11_nextWord 44 = .ok (.aload_n 0, 1) := by decide +kernel
theorem dX11_nextWord_45 : decode cX11_nextWord 45 = .ok (.getfield 44, 3) := by decide +kernel
theorem dX11_nextWord_48 : decode cX11_nextWord 48 = .ok (.iload_n 2, 1) := by decide +kernel
theorem dX11_nextWord_49 : decode cX11_nextWord 49 = .ok (.iaload, 1) := by decide +kernel
theorem dX11_nextWord_50 : decode cX11_nextWord 50 = .ok (.goto 4, 3) := by decide +kernel
theorem dX11_nextWord_53 : decode cX11_nextWord 53 = .ok (.iconst 0, 1) := by decide +kernel
theorem dX11_nextWord_54 : decode cX11_nextWord 54 = .ok (.ireturn, 1) := by decide +kernel
theorem dX11_writes_0 : decode cX11_writes 0 = .ok (.aload_n 0, 1) := by decide +kernel
theorem dX11_writes_1 : decode cX11_writes 1 = .ok (.iconst 0, 1) := by decide +kernel
theorem dX11_writes_2 : decode cX11_writes 2 = .ok (.putfield 246, 3) := by decide +kernel
theorem dX11_writes_5 : decode cX11_writes 5 = .ok (.aload_n 0, 1) := by decide +kernel
theorem dX11_writes_6 : decode cX11_writes 6 = .ok (.iconst 0, 1) := by decide +kernel
theorem dX11_writes_7 : decode cX11_writes 7 = .ok (.putfield 249, 3) := by decide +kernel
theorem dX11_writes_10 : decode cX11_writes 10 = .ok (.iconst 0, 1) := by decide +kernel
theorem dX11_writes_11 : decode cX11_writes 11 = .ok (.istore_n 2, 1) := by decide +kernel
theorem dX11_writes_12 : decode cX11_writes 12 = .ok (.iload_n 1, 1) := by decide +kernel
theorem dX11_writes_13 : decode cX11_writes 13 = .ok (.istore_n 3, 1) := by decide +kernel
theorem dX11_writes_14 : decode cX11_writes 14 = .ok (.iload_n 3, 1) := by decide +kernel
theorem dX11_writes_15 : decode cX11_writes 15 = .ok (.aload_n 0, 1) := by decide +kernel
theorem dX11_writes_16 : decode cX11_writes 16 = .ok (.getfield 203, 3) := by decide +kernel
theorem dX11_writes_19 : decode cX11_writes 19 = .ok (.if_icmp .ge 229, 3) := by decide +kernel
theorem dX11_writes_22 : decode cX11_writes 22 = .ok (.aload_n 0, 1) := by decide +kernel
theorem dX11_writes_23 : decode cX11_writes 23 = .ok (.getfield 44, 3) := by decide +kernel
theorem dX11_writes_26 : decode cX11_writes 26 = .ok (.iload_n 3, 1) := by decide +kernel
theorem dX11_writes_27 : decode cX11_writes 27 = .ok (.iaload, 1) := by decide +kernel
theorem dX11_writes_28 : decode cX11_writes 28 = .ok (.bipush 10, 2) := by decide +kernel
theorem dX11_writes_30 : decode cX11_writes 30 = .ok (.if_icmp .eq 218, 3) := by decide +kernel
theorem dX11_writes_33 : decode cX11_writes 33 = .ok (.aload_n 0, 1) := by decide +kernel
theorem dX11_writes_34 : decode cX11_writes 34 = .ok (.getfield 44, 3) := by decide +kernel
theorem dX11_writes_37 : decode cX11_writes 37 = .ok (.iload_n 3, 1) := by decide +kernel
theorem dX11_writes_38 : decode cX11_writes 38 = .ok (.iaload, 1) := by decide +kernel
theorem dX11_writes_39 : decode cX11_writes 39 = .ok (.ifCond .lt 41, 3) := by decide +kernel
theorem dX11_writes_42 : decode cX11_writes 42 = .ok (.aload_n 0, 1) := by decide +kernel
theorem dX11_writes_43 : decode cX11_writes 43 = .ok (.getfield 65, 3) := by decide +kernel
theorem dX11_writes_46 : decode cX11_writes 46 = .ok (.aload_n 0, 1) := by decide +kernel
theorem dX11_writes_47 : decode cX11_writes 47 = .ok (.getfield 249, 3) := by decide +kernel
theorem dX11_writes_50 : decode cX11_writes 50 = .ok (.aload_n 0, 1) := by decide +kernel
theorem dX11_writes_51 : decode cX11_writes 51 = .ok (.getfield 44, 3) := by decide +kernel
theorem dX11_writes_54 : decode cX11_writes 54 = .ok (.iload_n 3, 1) := by decide +kernel
theorem dX11_writes_55 : decode cX11_writes 55 = .ok (.iaload, 1) := by decide +kernel
theorem dX11_writes_56 : decode cX11_writes 56 = .ok (.iastore, 1) := by decide +kernel
theorem dX11_writes_57 : decode cX11_writes 57 = .ok (.aload_n 0, 1) := by decide +kernel
theorem dX11_writes_58 : decode cX11_writes 58 = .ok (.dup, 1) := by decide +kernel
theorem dX11_writes_59 : decode cX11_writes 59 = .ok (.getfield 249, 3) := by decide +kernel
theorem dX11_writes_62 : decode cX11_writes 62 = .ok (.iconst 1, 1) := by decide +kernel
theorem dX11_writes_63 : decode cX11_writes 63 = .ok (.iadd, 1) := by decide +kernel
theorem dX11_writes_64 : decode cX11_writes 64 = .ok (.putfield 249, 3) := by decide +kernel
theorem dX11_writes_67 : decode cX11_writes 67 = .ok (.aload_n 0, 1) := by decide +kernel
theorem dX11_writes_68 : decode cX11_writes 68 = .ok (.getfield 44, 3) := by decide +kernel
theorem dX11_writes_71 : decode cX11_writes 71 = .ok (.iload_n 3, 1) := by decide +kernel
theorem dX11_writes_72 : decode cX11_writes 72 = .ok (.iaload, 1) := by decide +kernel
theorem dX11_writes_73 : decode cX11_writes 73 = .ok (.istore_n 2, 1) := by decide +kernel
theorem dX11_writes_74 : decode cX11_writes 74 = .ok (.iinc 3 1, 3) := by decide +kernel
theorem dX11_writes_77 : decode cX11_writes 77 = .ok (.goto (-63), 3) := by decide +kernel
theorem dX11_writes_80 : decode cX11_writes 80 = .ok (.iload_n 2, 1) := by decide +kernel
theorem dX11_writes_81 : decode cX11_writes 81 = .ok (.invokestatic 252, 3) := by decide +kernel
theorem dX11_writes_84 : decode cX11_writes 84 = .ok (.ifCond .eq 19, 3) := by decide +kernel
theorem dX11_writes_87 : decode cX11_writes 87 = .ok (.aload_n 0, 1) := by decide +kernel
theorem dX11_writes_88 : decode cX11_writes 88 = .ok (.iload_n 3, 1) := by decide +kernel
theorem dX11_writes_89 : decode cX11_writes 89 = .ok (.invokevirtual 255, 3) := by decide +kernel
theorem dX11_writes_92 : decode cX11_writes 92 = .ok (.invokestatic 252, 3) := by decide +kernel
theorem dX11_writes_95 : decode cX11_writes 95 = .ok (.ifCond .eq 8, 3) := by decide +kernel
theorem dX11_writes_98 : decode cX11_writes 98 = .ok (.bipush 45, 2) := by decide +kernel
theorem dX11_writes_100 : decode cX11_writes 100 = .ok (.goto 5, 3) := by decide +kernel
theorem dX11_writes_103 : decode cX11_writes 103 = .ok (.bipush 32, 2) := by decide +kernel
theorem dX11_writes_105 : decode cX11_writes 105 = .ok (.istore 4, 2) := by decide +kernel
theorem dX11_writes_107 : decode cX11_writes 107 = .ok (.aload_n 0, 1) := by decide +kernel
theorem dX11_writes_108 : decode cX11_writes 108 = .ok (.getfield 246, 3) := by decide +kernel
theorem dX11_writes_111 : decode cX11_writes 111 = .ok (.ifCond .le 40, 3) := by decide +kernel
theorem dX11_writes_114 : decode cX11_writes 114 = .ok (.aload_n 0, 1) := by decide +kernel
theorem dX11_writes_115 : decode cX11_writes 115 = .ok (.getfield 249, 3) := by decide +kernel
theorem dX11_writes_118 : decode cX11_writes 118 = .ok (.aload_n 0, 1) := by decide +kernel
theorem dX11_writes_119 : decode cX11_writes 119 = .ok (.getfield 246, 3) := by decide +kernel
theorem dX11_writes_122 : decode cX11_writes 122 = .ok (.iconst 1, 1) := by decide +kernel
theorem dX11_writes_123 : decode cX11_writes 123 = .ok (.iadd, 1) := by decide +kernel
theorem dX11_writes_124 : decode cX11_writes 124 = .ok (.if_icmp .ge 27, 3) := by decide +kernel
theorem dX11_writes_127 : decode cX11_writes 127 = .ok (.aload_n 0, 1) := by decide +kernel
theorem dX11_writes_128 : decode cX11_writes 128 = .ok (.getfield 65, 3) := by decide +kernel
theorem dX11_writes_131 : decode cX11_writes 131 = .ok (.aload_n 0, 1) := by decide +kernel
theorem dX11_writes_132 : decode cX11_writes 132 = .ok (.getfield 249, 3) := by decide +kernel
theorem dX11_writes_135 : decode cX11_writes 135 = .ok (.iload 4, 2) := by decide +kernel
theorem dX11_writes_137 : decode cX11_writes 137 = .ok (.iastore, 1) := by decide +kernel
theorem dX11_writes_138 : decode cX11_writes 138 = .ok (.aload_n 0, 1) := by decide +kernel
theorem dX11_writes_139 : decode cX11_writes 139 = .ok (.dup, 1) := by decide +kernel
theorem dX11_writes_140 : decode cX11_writes 140 = .ok (.getfield 249, 3) := by decide +kernel
theorem dX11_writes_143 : decode cX11_writes 143 = .ok (.iconst 1, 1) := by decide +kernel
theorem dX11_writes_144 : decode cX11_writes 144 = .ok (.iadd, 1) := by decide +kernel
theorem dX11_writes_145 : decode cX11_writes 145 = .ok (.putfield 249, 3) := by decide +kernel
theorem dX11_writes_148 : decode cX11_writes 148 = .ok (.goto (-41), 3) := by decide +kernel
theorem dX11_writes_151 : decode cX11_writes 151 = .ok (.aload_n 0, 1) := by decide +kernel
theorem dX11_writes_152 : decode cX11_writes 152 = .ok (.getfield 246, 3) := by decide +kernel
theorem dX11_writes_155 : decode cX11_writes 155 = .ok (.aload_n 0, 1) := by decide +kernel
theorem dX11_writes_156 : decode cX11_writes 156 = .ok (.getfield 249, 3) := by decide +kernel
theorem dX11_writes_159 : decode cX11_writes 159 = .ok (.if_icmp .ge 27, 3) := by decide +kernel
theorem dX11_writes_162 : decode cX11_writes 162 = .ok (.aload_n 0, 1) := by decide +kernel
theorem dX11_writes_163 : decode cX11_writes 163 = .ok (.getfield 62, 3) := by decide +kernel
theorem dX11_writes_166 : decode cX11_writes 166 = .ok (.aload_n 0, 1) := by decide +kernel
theorem dX11_writes_167 : decode cX11_writes 167 = .ok (.getfield 246, 3) := by decide +kernel
theorem dX11_writes_170 : decode cX11_writes 170 = .ok (.bipush 32, 2) := by decide +kernel
theorem dX11_writes_172 : decode cX11_writes 172 = .ok (.iastore, 1) := by decide +kernel
theorem dX11_writes_173 : decode cX11_writes 173 = .ok (.aload_n 0, 1) := by decide +kernel
theorem dX11_writes_174 : decode cX11_writes 174 = .ok (.dup, 1) := by decide +kernel
theorem dX11_writes_175 : decode cX11_writes 175 = .ok (.getfield 246, 3) := by decide +kernel
theorem dX11_writes_178 : decode cX11_writes 178 = .ok (.iconst 1, 1) := by decide +kernel
theorem dX11_writes_179 : decode cX11_writes 179 = .ok (.iadd, 1) := by decide +kernel
theorem dX11_writes_180 : decode cX11_writes 180 = .ok (.putfield 246, 3) := by decide +kernel
theorem dX11_writes_183 : decode cX11_writes 183 = .ok (.goto (-32), 3) := by decide +kernel
theorem dX11_writes_186 : decode cX11_writes 186 = .ok (.aload_n 0, 1) := by decide +kernel
theorem dX11_writes_187 : decode cX11_writes 187 = .ok (.iconst (-1), 1) := by decide +kernel
theorem dX11_writes_188 : decode cX11_writes 188 = .ok (.aload_n 0, 1) := by decide +kernel
theorem dX11_writes_189 : decode cX11_writes 189 = .ok (.getfield 44, 3) := by decide +kernel
theorem dX11_writes_192 : decode cX11_writes 192 = .ok (.iload_n 3, 1) := by decide +kernel
theorem dX11_writes_193 : decode cX11_writes 193 = .ok (.iaload, 1) := by decide +kernel
theorem dX11_writes_194 : decode cX11_writes 194 = .ok (.isub, 1) := by decide +kernel
theorem dX11_writes_195 : decode cX11_writes 195 = .ok (.invokevirtual 240, 3) := by decide +kernel
theorem dX11_writes_198 : decode cX11_writes 198 = .ok (.iconst 0, 1) := by decide +kernel
theorem dX11_writes_199 : decode cX11_writes 199 = .ok (.istore 5, 2) := by decide +kernel
theorem dX11_writes_201 : decode cX11_writes 201 = .ok (.iload 5, 2) := by decide +kernel
theorem dX11_writes_203 : decode cX11_writes 203 = .ok (.aload_n 0, 1) := by decide +kernel
theorem dX11_writes_204 : decode cX11_writes 204 = .ok (.getfield 226, 3) := by decide +kernel
theorem dX11_writes_207 : decode cX11_writes 207 = .ok (.if_icmp .ge 35, 3) := by decide +kernel
theorem dX11_writes_210 : decode cX11_writes 210 = .ok (.aload_n 0, 1) := by decide +kernel
theorem dX11_writes_211 : decode cX11_writes 211 = .ok (.getfield 62, 3) := by decide +kernel
theorem dX11_writes_214 : decode cX11_writes 214 = .ok (.aload_n 0, 1) := by decide +kernel
theorem dX11_writes_215 : decode cX11_writes 215 = .ok (.getfield 246, 3) := by decide +kernel
theorem dX11_writes_218 : decode cX11_writes 218 = .ok (.aload_n 0, 1) := by decide +kernel
theorem dX11_writes_219 : decode cX11_writes 219 = .ok (.getfield 59, 3) := by decide +kernel
theorem dX11_writes_222 : decode cX11_writes 222 = .ok (.iload 5, 2) := by decide +kernel
theorem dX11_writes_224 : decode cX11_writes 224 = .ok (.iaload, 1) := by decide +kernel
theorem dX11_writes_225 : decode cX11_writes 225 = .ok (.iastore, 1) := by decide +kernel
theorem dX11_writes_226 : decode cX11_writes 226 = .ok (.aload_n 0, 1) := by decide +kernel
theorem dX11_writes_227 : decode cX11_writes 227 = .ok (.dup, 1) := by decide +kernel
theorem dX11_writes_228 : decode cX11_writes 228 = .ok (.getfield 246, 3) := by decide +kernel
theorem dX11_writes_231 : decode cX11_writes 231 = .ok (.iconst 1, 1) := by decide +kernel
theorem dX11_writes_232 : decode cX11_writes 232 = .ok (.iadd, 1) := by decide +kernel
theorem dX11_writes_233 : decode cX11_writes 233 = .ok (.putfield 246, 3) := by decide +kernel
theorem dX11_writes_236 : decode cX11_writes 236 = .ok (.iinc 5 1, 3) := by decide +kernel
theorem dX11_writes_239 : decode cX11_writes 239 = .ok (.goto (-38), 3) := by decide +kernel
theorem dX11_writes_242 : decode cX11_writes 242 = .ok (.iinc 3 1, 3) := by decide +kernel
theorem dX11_writes_245 : decode cX11_writes 245 = .ok (.goto (-231), 3) := by decide +kernel
theorem dX11_writes_248 : decode cX11_writes 248 = .ok (.iload_n 3, 1) := by decide +kernel
theorem dX11_writes_249 : decode cX11_writes 249 = .ok (.ireturn, 1) := by decide +kernel
theorem dX11_write_0 : decode cX11_write 0 = .ok (.aload_n 0, 1) := by decide +kernel
theorem dX11_write_1 : decode cX11_write 1 = .ok (.iconst 0, 1) := by decide +kernel
theorem dX11_write_2 : decode cX11_write 2 = .ok (.putfield 89, 3) := by decide +kernel
theorem dX11_write_5 : decode cX11_write 5 = .ok (.aload_n 0, 1) := by decide +kernel
theorem dX11_write_6 : decode cX11_write 6 = .ok (.iconst 0, 1) := by decide +kernel
theorem dX11_write_7 : decode cX11_write 7 = .ok (.putfield 237, 3) := by decide +kernel
theorem dX11_write_10 : decode cX11_write 10 = .ok (.aload_n 0, 1) := by decide +kernel
theorem dX11_write_11 : decode cX11_write 11 = .ok (.getfield 206, 3) := by decide +kernel
theorem dX11_write_14 : decode cX11_write 14 = .ok (.ifCond .ne 5, 3) := by decide +kernel
theorem dX11_write_17 : decode cX11_write 17 = .ok (.iconst 0, 1) := by decide +kernel
theorem dX11_write_18 : decode cX11_write 18 = .ok (.ireturn, 1) := by decide +kernel
theorem dX11_write_19 : decode cX11_write 19 = .ok (.iconst 0, 1) := by decide +kernel
theorem dX11_write_20 : decode cX11_write 20 = .ok (.istore_n 1, 1) := by decide +kernel
theorem dX11_write_21 : decode cX11_write 21 = .ok (.iconst 0, 1) := by decide +kernel
theorem dX11_write_22 : decode cX11_write 22 = .ok (.istore_n 2, 1) := by decide +kernel
theorem dX11_write_23 : decode cX11_write 23 = .ok (.iload_n 2, 1) := by decide +kernel
theorem dX11_write_24 : decode cX11_write 24 = .ok (.aload_n 0, 1) := by decide +kernel
theorem dX11_write_25 : decode cX11_write 25 = .ok (.getfield 200, 3) := by decide +kernel
theorem dX11_write_28 : decode cX11_write 28 = .ok (.if_icmp .ge 100, 3) := by decide +kernel
theorem dX11_write_31 : decode cX11_write 31 = .ok (.iload_n 2, 1) := by decide +kernel
theorem dX11_write_32 : decode cX11_write 32 = .ok (.ifCond .le 9, 3) := by decide +kernel
theorem dX11_write_35 : decode cX11_write 35 = .ok (.aload_n 0, 1) := by decide +kernel
theorem dX11_write_36 : decode cX11_write 36 = .ok (.bipush 10, 2) := by decide +kernel
theorem dX11_write_38 : decode cX11_write 38 = .ok (.invokevirtual 243, 3) := by decide +kernel
theorem dX11_write_41 : decode cX11_write 41 = .ok (.aload_n 0, 1) := by decide +kernel
theorem dX11_write_42 : decode cX11_write 42 = .ok (.iload_n 1, 1) := by decide +kernel
theorem dX11_write_43 : decode cX11_write 43 = .ok (.invokevirtual 258, 3) := by decide +kernel
theorem dX11_write_46 : decode cX11_write 46 = .ok (.istore_n 3, 1) := by decide +kernel
theorem dX11_write_47 : decode cX11_write 47 = .ok (.iconst 0, 1) := by decide +kernel
theorem dX11_write_48 : decode cX11_write 48 = .ok (.istore 4, 2) := by decide +kernel
theorem dX11_write_50 : decode cX11_write 50 = .ok (.iload 4, 2) := by decide +kernel
theorem dX11_write_52 : decode cX11_write 52 = .ok (.aload_n 0, 1) := by decide +kernel
theorem dX11_write_53 : decode cX11_write 53 = .ok (.getfield 246, 3) := by decide +kernel
theorem dX11_write_56 : decode cX11_write 56 = .ok (.if_icmp .ge 20, 3) := by decide +kernel
theorem dX11_write_59 : decode cX11_write 59 = .ok (.aload_n 0, 1) := by decide +kernel
theorem dX11_write_60 : decode cX11_write 60 = .ok (.aload_n 0, 1) := by decide +kernel
theorem dX11_write_61 : decode cX11_write 61 = .ok (.getfield 62, 3) := by decide +kernel
theorem dX11_write_64 : decode cX11_write 64 = .ok (.iload 4, 2) := by decide +kernel
theorem dX11_write_66 : decode cX11_write 66 = .ok (.iaload, 1) := by decide +kernel
theorem dX11_write_67 : decode cX11_write 67 = .ok (.invokevirtual 243, 3) := by decide +kernel
theorem dX11_write_70 : decode cX11_write 70 = .ok (.iinc 4 1, 3) := by decide +kernel
theorem dX11_write_73 : decode cX11_write 73 = .ok (.goto (-23), 3) := by decide +kernel
theorem dX11_write_76 : decode cX11_write 76 = .ok (.aload_n 0, 1) := by decide +kernel
theorem dX11_write_77 : decode cX11_write 77 = .ok (.getfield 246, 3) := by decide +kernel
theorem dX11_write_80 : decode cX11_write 80 = .ok (.ifCond .le 9, 3) := by decide +kernel
theorem dX11_write_83 : decode cX11_write 83 = .ok (.aload_n 0, 1) := by decide +kernel
theorem dX11_write_84 : decode cX11_write 84 = .ok (.bipush 10, 2) := by decide +kernel
theorem dX11_write_86 : decode cX11_write 86 = .ok (.invokevirtual 243, 3) := by decide +kernel
theorem dX11_write_89 : decode cX11_write 89 = .ok (.iconst 0, 1) := by decide +kernel
theorem dX11_write_90 : decode cX11_write 90 = .ok (.istore 4, 2) := by decide +kernel
theorem dX11_write_92 : decode cX11_write 92 = .ok (.iload 4, 2) := by decide +kernel
theorem dX11_write_94 : decode cX11_write 94 = .ok (.aload_n 0, 1) := by decide +kernel
theorem dX11_write_95 : decode cX11_write 95 = .ok (.getfield 249, 3) := by decide +kernel
theorem dX11_write_98 : decode cX11_write 98 = .ok (.if_icmp .ge 20, 3) := by decide +kernel
theorem dX11_write_101 : decode cX11_write 101 = .ok (.aload_n 0, 1) := by decide +kernel
theorem dX11_write_102 : decode cX11_write 102 = .ok (.aload_n 0, 1) := by decide +kernel
theorem dX11_write_103 : decode cX11_write 103 = .ok (.getfield 65, 3) := by decide +kernel
theorem dX11_write_106 : decode cX11_write 106 = .ok (.iload 4, 2) := by decide +kernel
theorem dX11_write_108 : decode cX11_write 108 = .ok (.iaload, 1) := by decide +kernel
theorem dX11_write_109 : decode cX11_write 109 = .ok (.invokevirtual 243, 3) := by decide +kernel
theorem dX11_write_112 : decode cX11_write 112 = .ok (.iinc 4 1, 3) := by decide +kernel
theorem dX11_write_115 : decode cX11_write 115 = .ok (.goto (-23), 3) := by decide +kernel
theorem dX11_write_118 : decode cX11_write 118 = .ok (.iload_n 3, 1) := by decide +kernel
theorem dX11_write_119 : decode cX11_write 119 = .ok (.iconst 1, 1) := by decide +kernel
theorem dX11_write_120 : decode cX11_write 120 = .ok (.iadd, 1) := by decide +kernel
theorem dX11_write_121 : decode cX11_write 121 = .ok (.istore_n 1, 1) := by decide +kernel
theorem dX11_write_122 : decode cX11_write 122 = .ok (.iinc 2 1, 3) := by decide +kernel
theorem dX11_write_125 : decode cX11_write 125 = .ok (.goto (-102), 3) := by decide +kernel
theorem dX11_write_128 : decode cX11_write 128 = .ok (.aload_n 0, 1) := by decide +kernel
theorem dX11_write_129 : decode cX11_write 129 = .ok (.getfield 237, 3) := by decide +kernel
theorem dX11_write_132 : decode cX11_write 132 = .ok (.ireturn, 1) := by decide +kernel
theorem dX11_told_0 : decode cX11_told 0 = .ok (.aload_n 0, 1) := by decide +kernel
theorem dX11_told_1 : decode cX11_told 1 = .ok (.iconst 0, 1) := by decide +kernel
theorem dX11_told_2 : decode cX11_told 2 = .ok (.putfield 89, 3) := by decide +kernel
theorem dX11_told_5 : decode cX11_told 5 = .ok (.aload_n 0, 1) := by decide +kernel
theorem dX11_told_6 : decode cX11_told 6 = .ok (.iload_n 1, 1) := by decide +kernel
theorem dX11_told_7 : decode cX11_told 7 = .ok (.ifCond .lt 15, 3) := by decide +kernel
theorem dX11_told_10 : decode cX11_told 10 = .ok (.iload_n 1, 1) := by decide +kernel
theorem dX11_told_11 : decode cX11_told 11 = .ok (.aload_n 0, 1) := by decide +kernel
theorem dX11_told_12 : decode cX11_told 12 = .ok (.invokevirtual 261, 3) := by decide +kernel
theorem dX11_told_15 : decode cX11_told 15 = .ok (.if_icmp .ge 7, 3) := by decide +kernel
theorem dX11_told_18 : decode cX11_told 18 = .ok (.iconst 1, 1) := by decide +kernel
theorem dX11_told_19 : decode cX11_told 19 = .ok (.goto 4, 3) := by decide +kernel
theorem dX11_told_22 : decode cX11_told 22 = .ok (.iconst 0, 1) := by decide +kernel
theorem dX11_told_23 : decode cX11_told 23 = .ok (.iconst 1, 1) := by decide +kernel
theorem dX11_told_24 : decode cX11_told 24 = .ok (.invokevirtual 190, 3) := by decide +kernel
theorem dX11_told_27 : decode cX11_told 27 = .ok (.ifCond .eq 12, 3) := by decide +kernel
theorem dX11_told_30 : decode cX11_told 30 = .ok (.aload_n 0, 1) := by decide +kernel
theorem dX11_told_31 : decode cX11_told 31 = .ok (.getfield 56, 3) := by decide +kernel
theorem dX11_told_34 : decode cX11_told 34 = .ok (.iload_n 1, 1) := by decide +kernel
theorem dX11_told_35 : decode cX11_told 35 = .ok (.iaload, 1) := by decide +kernel
theorem dX11_told_36 : decode cX11_told 36 = .ok (.goto 4, 3) := by decide +kernel
theorem dX11_told_39 : decode cX11_told 39 = .ok (.iconst 0, 1) := by decide +kernel
theorem dX11_told_40 : decode cX11_told 40 = .ok (.ireturn, 1) := by decide +kernel
theorem dX11_string_0 : decode cX11_string 0 = .ok (.aload_n 0, 1) := by decide +kernel
theorem dX11_string_1 : decode cX11_string 1 = .ok (.iconst 0, 1) := by decide +kernel
theorem dX11_string_2 : decode cX11_string 2 = .ok (.putfield 89, 3) := by decide +kernel
theorem dX11_string_5 : decode cX11_string 5 = .ok (.aload_n 0, 1) := by decide +kernel
theorem dX11_string_6 : decode cX11_string 6 = .ok (.iload_n 1, 1) := by decide +kernel
theorem dX11_string_7 : decode cX11_string 7 = .ok (.ifCond .lt 13, 3) := by decide +kernel
theorem dX11_string_10 : decode cX11_string 10 = .ok (.iload_n 1, 1) := by decide +kernel
theorem dX11_string_11 : decode cX11_string 11 = .ok (.bipush 60, 2) := by decide +kernel
theorem dX11_string_13 : decode cX11_string 13 = .ok (.if_icmp .gt 7, 3) := by decide +kernel
theorem dX11_string_16 : decode cX11_string 16 = .ok (.iconst 1, 1) := by decide +kernel
theorem dX11_string_17 : decode cX11_string 17 = .ok (.goto 4, 3) := by decide +kernel
theorem dX11_string_20 : decode cX11_string 20 = .ok (.iconst 0, 1) := by decide +kernel
theorem dX11_string_21 : decode cX11_string 21 = .ok (.iconst 1, 1) := by decide +kernel
theorem dX11_string_22 : decode cX11_string 22 = .ok (.invokevirtual 190, 3) := by decide +kernel
theorem dX11_string_25 : decode cX11_string 25 = .ok (.ifCond .ne 5, 3) := by decide +kernel
theorem dX11_string_28 : decode cX11_string 28 = .ok (.iconst 0, 1) := by decide +kernel
theorem dX11_string_29 : decode cX11_string 29 = .ok (.ireturn, 1) := by decide +kernel
theorem dX11_string_30 : decode cX11_string 30 = .ok (.aload_n 0, 1) := by decide +kernel
theorem dX11_string_31 : decode cX11_string 31 = .ok (.getfield 264, 3) := by decide +kernel
theorem dX11_string_34 : decode cX11_string 34 = .ok (.bipush 6, 2) := by decide +kernel
theorem dX11_string_36 : decode cX11_string 36 = .ok (.if_icmp .ne 5, 3) := by decide +kernel
theorem dX11_string_39 : decode cX11_string 39 = .ok (.iconst (-1), 1) := by decide +kernel
theorem dX11_string_40 : decode cX11_string 40 = .ok (.ireturn, 1) := by decide +kernel
theorem dX11_string_41 : decode cX11_string 41 = .ok (.aload_n 0, 1) := by decide +kernel
theorem dX11_string_42 : decode cX11_string 42 = .ok (.getfield 50, 3) := by decide +kernel
theorem dX11_string_45 : decode cX11_string 45 = .ok (.aload_n 0, 1) := by decide +kernel
theorem dX11_string_46 : decode cX11_string 46 = .ok (.getfield 264, 3) := by decide +kernel
theorem dX11_string_49 : decode cX11_string 49 = .ok (.iload_n 1, 1) := by decide +kernel
theorem dX11_string_50 : decode cX11_string 50 = .ok (.iastore, 1) := by decide +kernel
theorem dX11_string_51 : decode cX11_string 51 = .ok (.aload_n 0, 1) := by decide +kernel
theorem dX11_string_52 : decode cX11_string 52 = .ok (.dup, 1) := by decide +kernel
theorem dX11_string_53 : decode cX11_string 53 = .ok (.getfield 264, 3) := by decide +kernel
theorem dX11_string_56 : decode cX11_string 56 = .ok (.iconst 1, 1) := by decide +kernel
theorem dX11_string_57 : decode cX11_string 57 = .ok (.iadd, 1) := by decide +kernel
theorem dX11_string_58 : decode cX11_string 58 = .ok (.putfield 264, 3) := by decide +kernel
theorem dX11_string_61 : decode cX11_string 61 = .ok (.aload_n 0, 1) := by decide +kernel
theorem dX11_string_62 : decode cX11_string 62 = .ok (.invokevirtual 210, 3) := by decide +kernel
theorem dX11_string_65 : decode cX11_string 65 = .ok (.aload_n 0, 1) := by decide +kernel
theorem dX11_string_66 : decode cX11_string 66 = .ok (.getfield 264, 3) := by decide +kernel
theorem dX11_string_69 : decode cX11_string 69 = .ok (.ireturn, 1) := by decide +kernel
theorem dX11_unstring_0 : decode cX11_unstring 0 = .ok (.aload_n 0, 1) := by decide +kernel
theorem dX11_unstring_1 : decode cX11_unstring 1 = .ok (.iconst 0, 1) := by decide +kernel
theorem dX11_unstring_2 : decode cX11_unstring 2 = .ok (.putfield 89, 3) := by decide +kernel
theorem dX11_unstring_5 : decode cX11_unstring 5 = .ok (.aload_n 0, 1) := by decide +kernel
theorem dX11_unstring_6 : decode cX11_unstring 6 = .ok (.getfield 264, 3) := by decide +kernel
theorem dX11_unstring_9 : decode cX11_unstring 9 = .ok (.istore_n 1, 1) := by decide +kernel
theorem dX11_unstring_10 : decode cX11_unstring 10 = .ok (.aload_n 0, 1) := by decide +kernel
theorem dX11_unstring_11 : decode cX11_unstring 11 = .ok (.iconst 0, 1) := by decide +kernel
theorem dX11_unstring_12 : decode cX11_unstring 12 = .ok (.putfield 264, 3) := by decide +kernel
theorem dX11_unstring_15 : decode cX11_unstring 15 = .ok (.aload_n 0, 1) := by decide +kernel
theorem dX11_unstring_16 : decode cX11_unstring 16 = .ok (.invokevirtual 210, 3) := by decide +kernel
theorem dX11_unstring_19 : decode cX11_unstring 19 = .ok (.iload_n 1, 1) := by decide +kernel
theorem dX11_unstring_20 : decode cX11_unstring 20 = .ok (.ireturn, 1) := by decide +kernel
theorem dX11_changes_0 : decode cX11_changes 0 = .ok (.iconst 0, 1) := by decide +kernel
theorem dX11_changes_1 : decode cX11_changes 1 = .ok (.istore_n 1, 1) := by decide +kernel
theorem dX11_changes_2 : decode cX11_changes 2 = .ok (.iload_n 1, 1) := by decide +kernel
theorem dX11_changes_3 : decode cX11_changes 3 = .ok (.sipush 480, 3) := by decide +kernel
theorem dX11_changes_6 : decode cX11_changes 6 = .ok (.if_icmp .ge 16, 3) := by decide +kernel
theorem dX11_changes_9 : decode cX11_changes 9 = .ok (.aload_n 0, 1) := by decide +kernel
theorem dX11_changes_10 : decode cX11_changes 10 = .ok (.getfield 68, 3) := by decide +kernel
theorem dX11_changes_13 : decode cX11_changes 13 = .ok (.iload_n 1, 1) := by decide +kernel
theorem dX11_changes_14 : decode cX11_changes 14 = .ok (.iconst (-1), 1) := by decide +kernel
theorem dX11_changes_15 : decode cX11_changes 15 = .ok (.iastore, 1) := by decide +kernel
theorem dX11_changes_16 : decode cX11_changes 16 = .ok (.iinc 1 1, 3) := by decide +kernel
theorem dX11_changes_19 : decode cX11_changes 19 = .ok (.goto (-17), 3) := by decide +kernel
theorem dX11_changes_22 : decode cX11_changes 22 = .ok (.aload_n 0, 1) := by decide +kernel
theorem dX11_changes_23 : decode cX11_changes 23 = .ok (.iconst (-1), 1) := by decide +kernel
theorem dX11_changes_24 : decode cX11_changes 24 = .ok (.putfield 17, 3) := by decide +kernel
theorem dX11_changes_27 : decode cX11_changes 27 = .ok (.return_, 1) := by decide +kernel
theorem dX11_find_0 : decode cX11_find 0 = .ok (.bipush 8, 2) := by decide +kernel
theorem dX11_find_2 : decode cX11_find 2 = .ok (.iload_n 1, 1) := by decide +kernel
theorem dX11_find_3 : decode cX11_find 3 = .ok (.imul, 1) := by decide +kernel
theorem dX11_find_4 : decode cX11_find 4 = .ok (.iload_n 2, 1) := by decide +kernel
theorem dX11_find_5 : decode cX11_find 5 = .ok (.iadd, 1) := by decide +kernel
theorem dX11_find_6 : decode cX11_find 6 = .ok (.istore_n 3, 1) := by decide +kernel
theorem dX11_find_7 : decode cX11_find 7 = .ok (.aload_n 0, 1) := by decide +kernel
theorem dX11_find_8 : decode cX11_find 8 = .ok (.getfield 68, 3) := by decide +kernel
theorem dX11_find_11 : decode cX11_find 11 = .ok (.iload_n 3, 1) := by decide +kernel
theorem dX11_find_12 : decode cX11_find 12 = .ok (.iaload, 1) := by decide +kernel
theorem dX11_find_13 : decode cX11_find 13 = .ok (.iconst (-1), 1) := by decide +kernel
theorem dX11_find_14 : decode cX11_find 14 = .ok (.if_icmp .eq 10, 3) := by decide +kernel
theorem dX11_find_17 : decode cX11_find 17 = .ok (.aload_n 0, 1) := by decide +kernel
theorem dX11_find_18 : decode cX11_find 18 = .ok (.getfield 68, 3) := by decide +kernel
theorem dX11_find_21 : decode cX11_find 21 = .ok (.iload_n 3, 1) := by decide +kernel
theorem dX11_find_22 : decode cX11_find 22 = .ok (.iaload, 1) := by decide +kernel
theorem dX11_find_23 : decode cX11_find 23 = .ok (.ireturn, 1) := by decide +kernel
theorem dX11_find_24 : decode cX11_find 24 = .ok (.aload_n 0, 1) := by decide +kernel
theorem dX11_find_25 : decode cX11_find 25 = .ok (.getfield 68, 3) := by decide +kernel
theorem dX11_find_28 : decode cX11_find 28 = .ok (.iload_n 3, 1) := by decide +kernel
theorem dX11_find_29 : decode cX11_find 29 = .ok (.iconst 0, 1) := by decide +kernel
theorem dX11_find_30 : decode cX11_find 30 = .ok (.iastore, 1) := by decide +kernel
theorem dX11_find_31 : decode cX11_find 31 = .ok (.aload_n 0, 1) := by decide +kernel
theorem dX11_find_32 : decode cX11_find 32 = .ok (.iload_n 1, 1) := by decide +kernel
theorem dX11_find_33 : decode cX11_find 33 = .ok (.invokevirtual 223, 3) := by decide +kernel
theorem dX11_find_36 : decode cX11_find 36 = .ok (.istore 4, 2) := by decide +kernel
theorem dX11_find_38 : decode cX11_find 38 = .ok (.iconst 0, 1) := by decide +kernel
theorem dX11_find_39 : decode cX11_find 39 = .ok (.istore 5, 2) := by decide +kernel
theorem dX11_find_41 : decode cX11_find 41 = .ok (.aload_n 0, 1) := by decide +kernel
theorem dX11_find_42 : decode cX11_find 42 = .ok (.getfield 77, 3) := by decide +kernel
theorem dX11_find_45 : decode cX11_find 45 = .ok (.iconst 0, 1) := by decide +kernel
theorem dX11_find_46 : decode cX11_find 46 = .ok (.bipush (-2), 2) := by decide +kernel
theorem dX11_find_48 : decode cX11_find 48 = .ok (.iastore, 1) := by decide +kernel
theorem dX11_find_49 : decode cX11_find 49 = .ok (.aload_n 0, 1) := by decide +kernel
theorem dX11_find_50 : decode cX11_find 50 = .ok (.getfield 80, 3) := by decide +kernel
theorem dX11_find_53 : decode cX11_find 53 = .ok (.iconst 0, 1) := by decide +kernel
theorem dX11_find_54 : decode cX11_find 54 = .ok (.bipush 99, 2) := by decide +kernel
theorem dX11_find_56 : decode cX11_find 56 = .ok (.iastore, 1) := by decide +kernel
theorem dX11_find_57 : decode cX11_find 57 = .ok (.aload_n 0, 1) := by decide +kernel
theorem dX11_find_58 : decode cX11_find 58 = .ok (.getfield 83, 3) := by decide +kernel
theorem dX11_find_61 : decode cX11_find 61 = .ok (.iconst 0, 1) := by decide +kernel
theorem dX11_find_62 : decode cX11_find 62 = .ok (.iconst 0, 1) := by decide +kernel
theorem dX11_find_63 : decode cX11_find 63 = .ok (.iastore, 1) := by decide +kernel
theorem dX11_find_64 : decode cX11_find 64 = .ok (.iload 5, 2) := by decide +kernel
theorem dX11_find_66 : decode cX11_find 66 = .ok (.ifCond .lt 239, 3) := by decide +kernel
theorem dX11_find_69 : decode cX11_find 69 = .ok (.aload_n 0, 1) := by decide +kernel
theorem dX11_find_70 : decode cX11_find 70 = .ok (.getfield 264, 3) := by decide +kernel
theorem dX11_find_73 : decode cX11_find 73 = .ok (.ifCond .le 232, 3) := by decide +kernel
theorem dX11_find_76 : decode cX11_find 76 = .ok (.aload_n 0, 1) := by decide +kernel
theorem dX11_find_77 : decode cX11_find 77 = .ok (.getfield 77, 3) := by decide +kernel
theorem dX11_find_80 : decode cX11_find 80 = .ok (.iload 5, 2) := by decide +kernel
theorem dX11_find_82 : decode cX11_find 82 = .ok (.dup2, 1) := by decide +kernel
theorem dX11_find_83 : decode cX11_find 83 = .ok (.iaload, 1) := by decide +kernel
theorem dX11_find_84 : decode cX11_find 84 = .ok (.iconst 1, 1) := by decide +kernel
theorem dX11_find_85 : decode cX11_find 85 = .ok (.iadd, 1) := by decide +kernel
theorem dX11_find_86 : decode cX11_find 86 = .ok (.iastore, 1) := by decide +kernel
theorem dX11_find_87 : decode cX11_find 87 = .ok (.aload_n 0, 1) := by decide +kernel
theorem dX11_find_88 : decode cX11_find 88 = .ok (.getfield 77, 3) := by decide +kernel
theorem dX11_find_91 : decode cX11_find 91 = .ok (.iload 5, 2) := by decide +kernel
theorem dX11_find_93 : decode cX11_find 93 = .ok (.iaload, 1) := by decide +kernel
theorem dX11_find_94 : decode cX11_find 94 = .ok (.istore 6, 2) := by decide +kernel
theorem dX11_find_96 : decode cX11_find 96 = .ok (.iload 6, 2) := by decide +kernel
theorem dX11_find_98 : decode cX11_find 98 = .ok (.bipush 9, 2) := by decide +kernel
theorem dX11_find_100 : decode cX11_find 100 = .ok (.if_icmp .le 9, 3) := by decide +kernel
theorem dX11_find_103 : decode cX11_find 103 = .ok (.iinc 5 (-1), 3) := by decide +kernel
theorem dX11_find_106 : decode cX11_find 106 = .ok (.goto (-42), 3) := by decide +kernel
theorem dX11_find_109 : decode cX11_find 109 = .ok (.iload 6, 2) := by decide +kernel
theorem dX11_find_111 : decode cX11_find 111 = .ok (.ifCond .lt 29, 3) := by decide +kernel
theorem dX11_find_114 : decode cX11_find 114 = .ok (.iload 4, 2) := by decide +kernel
theorem dX11_find_116 : decode cX11_find 116 = .ok (.aload_n 0, 1) := by decide +kernel
theorem dX11_find_117 : decode cX11_find 117 = .ok (.getfield 50, 3) := by decide +kernel
theorem dX11_find_120 : decode cX11_find 120 = .ok (.iload 5, 2) := by decide +kernel
theorem dX11_find_122 : decode cX11_find 122 = .ok (.iaload, 1) := by decide +kernel
theorem dX11_find_123 : decode cX11_find 123 = .ok (.iload_n 2, 1) := by decide +kernel
theorem dX11_find_124 : decode cX11_find 124 = .ok (.iadd, 1) := by decide +kernel
theorem dX11_find_125 : decode cX11_find 125 = .ok (.iload 6, 2) := by decide +kernel
theorem dX11_find_127 : decode cX11_find 127 = .ok (.iadd, 1) := by decide +kernel
theorem dX11_find_128 : decode cX11_find 128 = .ok (.bipush 12, 2) := by decide +kernel
theorem dX11_find_130 : decode cX11_find 130 = .ok (.irem, 1) := by decide +kernel
theorem dX11_find_131 : decode cX11_find 131 = .ok (.ishr, 1) := by decide +kernel
theorem dX11_find_132 : decode cX11_find 132 = .ok (.iconst 1, 1) := by decide +kernel
theorem dX11_find_133 : decode cX11_find 133 = .ok (.iand, 1) := by decide +kernel
theorem dX11_find_134 : decode cX11_find 134 = .ok (.ifCond .ne 6, 3) := by decide +kernel
theorem dX11_find_137 : decode cX11_find 137 = .ok (.goto (-73), 3) := by decide +kernel
theorem dX11_find_140 : decode cX11_find 140 = .ok (.aload_n 0, 1) := by decide +kernel
theorem dX11_find_141 : decode cX11_find 141 = .ok (.getfield 80, 3) := by decide +kernel
theorem dX11_find_144 : decode cX11_find 144 = .ok (.iload 5, 2) := by decide +kernel
theorem dX11_find_146 : decode cX11_find 146 = .ok (.iconst 1, 1) := by decide +kernel
theorem dX11_find_147 : decode cX11_find 147 = .ok (.iadd, 1) := by decide +kernel
theorem dX11_find_148 : decode cX11_find 148 = .ok (.iload 6, 2) := by decide +kernel
theorem dX11_find_150 : decode cX11_find 150 = .ok (.ifCond .le 20, 3) := by decide +kernel
theorem dX11_find_153 : decode cX11_find 153 = .ok (.iload 6, 2) := by decide +kernel
theorem dX11_find_155 : decode cX11_find 155 = .ok (.aload_n 0, 1) := by decide +kernel
theorem dX11_find_156 : decode cX11_find 156 = .ok (.getfield 80, 3) := by decide +kernel
theorem dX11_find_159 : decode cX11_find 159 = .ok (.iload 5, 2) := by decide +kernel
theorem dX11_find_161 : decode cX11_find 161 = .ok (.iaload, 1) := by decide +kernel
theorem dX11_find_162 : decode cX11_find 162 = .ok (.if_icmp .ge 8, 3) := by decide +kernel
theorem dX11_find_165 : decode cX11_find 165 = .ok (.iload 6, 2) := by decide +kernel
theorem dX11_find_167 : decode cX11_find 167 = .ok (.goto 10, 3) := by decide +kernel
theorem dX11_find_170 : decode cX11_find 170 = .ok (.aload_n 0, 1) := by decide +kernel
theorem dX11_find_171 : decode cX11_find 171 = .ok (.getfield 80, 3) := by decide +kernel
theorem dX11_find_174 : decode cX11_find 174 = .ok (.iload 5, 2) := by decide +kernel
theorem dX11_find_176 : decode cX11_find 176 = .ok (.iaload, 1) := by decide +kernel
theorem dX11_find_177 : decode cX11_find 177 = .ok (.iastore, 1) := by decide +kernel
theorem dX11_find_178 : decode cX11_find 178 = .ok (.aload_n 0, 1) := by decide +kernel
theorem dX11_find_179 : decode cX11_find 179 = .ok (.getfield 83, 3) := by decide +kernel
theorem dX11_find_182 : decode cX11_find 182 = .ok (.iload 5, 2) := by decide +kernel
theorem dX11_find_184 : decode cX11_find 184 = .ok (.iconst 1, 1) := by decide +kernel
theorem dX11_find_185 : decode cX11_find 185 = .ok (.iadd, 1) := by decide +kernel
theorem dX11_find_186 : decode cX11_find 186 = .ok (.iload 6, 2) := by decide +kernel
theorem dX11_find_188 : decode cX11_find 188 = .ok (.aload_n 0, 1) := by decide +kernel
theorem dX11_find_189 : decode cX11_find 189 = .ok (.getfield 83, 3) := by decide +kernel
theorem dX11_find_192 : decode cX11_find 192 = .ok (.iload 5, 2) := by decide +kernel
theorem dX11_find_194 : decode cX11_find 194 = .ok (.iaload, 1) := by decide +kernel
theorem dX11_find_195 : decode cX11_find 195 = .ok (.if_icmp .le 8, 3) := by decide +kernel
theorem dX11_find_198 : decode cX11_find 198 = .ok (.iload 6, 2) := by decide +kernel
theorem dX11_find_200 : decode cX11_find 200 = .ok (.goto 10, 3) := by decide +kernel
theorem dX11_find_203 : decode cX11_find 203 = .ok (.aload_n 0, 1) := by decide +kernel
theorem dX11_find_204 : decode cX11_find 204 = .ok (.getfield 83, 3) := by decide +kernel
theorem dX11_find_207 : decode cX11_find 207 = .ok (.iload 5, 2) := by decide +kernel
theorem dX11_find_209 : decode cX11_find 209 = .ok (.iaload, 1) := by decide +kernel
theorem dX11_find_210 : decode cX11_find 210 = .ok (.iastore, 1) := by decide +kernel
theorem dX11_find_211 : decode cX11_find 211 = .ok (.aload_n 0, 1) := by decide +kernel
theorem dX11_find_212 : decode cX11_find 212 = .ok (.getfield 80, 3) := by decide +kernel
theorem dX11_find_215 : decode cX11_find 215 = .ok (.iload 5, 2) := by decide +kernel
theorem dX11_find_217 : decode cX11_find 217 = .ok (.iconst 1, 1) := by decide +kernel
theorem dX11_find_218 : decode cX11_find 218 = .ok (.iadd, 1) := by decide +kernel
theorem dX11_find_219 : decode cX11_find 219 = .ok (.iaload, 1) := by decide +kernel
theorem dX11_find_220 : decode cX11_find 220 = .ok (.bipush 99, 2) := by decide +kernel
theorem dX11_find_222 : decode cX11_find 222 = .ok (.if_icmp .ge 29, 3) := by decide +kernel
theorem dX11_find_225 : decode cX11_find 225 = .ok (.aload_n 0, 1) := by decide +kernel
theorem dX11_find_226 : decode cX11_find 226 = .ok (.getfield 83, 3) := by decide +kernel
theorem dX11_find_229 : decode cX11_find 229 = .ok (.iload 5, 2) := by decide +kernel
theorem dX11_find_231 : decode cX11_find 231 = .ok (.iconst 1, 1) := by decide +kernel
theorem dX11_find_232 : decode cX11_find 232 = .ok (.iadd, 1) := by decide +kernel
theorem dX11_find_233 : decode cX11_find 233 = .ok (.iaload, 1) := by decide +kernel
theorem dX11_find_234 : decode cX11_find 234 = .ok (.aload_n 0, 1) := by decide +kernel
theorem dX11_find_235 : decode cX11_find 235 = .ok (.getfield 80, 3) := by decide +kernel
theorem dX11_find_238 : decode cX11_find 238 = .ok (.iload 5, 2) := by decide +kernel
theorem dX11_find_240 : decode cX11_find 240 = .ok (.iconst 1, 1) := by decide +kernel
theorem dX11_find_241 : decode cX11_find 241 = .ok (.iadd, 1) := by decide +kernel
theorem dX11_find_242 : decode cX11_find 242 = .ok (.iaload, 1) := by decide +kernel
theorem dX11_find_243 : decode cX11_find 243 = .ok (.isub, 1) := by decide +kernel
theorem dX11_find_244 : decode cX11_find 244 = .ok (.iconst 3, 1) := by decide +kernel
theorem dX11_find_245 : decode cX11_find 245 = .ok (.if_icmp .le 6, 3) := by decide +kernel
theorem dX11_find_248 : decode cX11_find 248 = .ok (.goto (-184), 3) := by decide +kernel
theorem dX11_find_251 : decode cX11_find 251 = .ok (.iload 5, 2) := by decide +kernel
theorem dX11_find_253 : decode cX11_find 253 = .ok (.iconst 1, 1) := by decide +kernel
theorem dX11_find_254 : decode cX11_find 254 = .ok (.iadd, 1) := by decide +kernel
theorem dX11_find_255 : decode cX11_find 255 = .ok (.aload_n 0, 1) := by decide +kernel
theorem dX11_find_256 : decode cX11_find 256 = .ok (.getfield 264, 3) := by decide +kernel
theorem dX11_find_259 : decode cX11_find 259 = .ok (.if_icmp .ge 18, 3) := by decide +kernel
theorem dX11_find_262 : decode cX11_find 262 = .ok (.iinc 5 1, 3) := by decide +kernel
theorem dX11_find_265 : decode cX11_find 265 = .ok (.aload_n 0, 1) := by decide +kernel
theorem dX11_find_266 : decode cX11_find 266 = .ok (.getfield 77, 3) := by decide +kernel
theorem dX11_find_269 : decode cX11_find 269 = .ok (.iload 5, 2) := by decide +kernel
theorem dX11_find_271 : decode cX11_find 271 = .ok (.bipush (-2), 2) := by decide +kernel
theorem dX11_find_273 : decode cX11_find 273 = .ok (.iastore, 1) := by decide +kernel
theorem dX11_find_274 : decode cX11_find 274 = .ok (.goto (-210), 3) := by decide +kernel
theorem dX11_find_277 : decode cX11_find 277 = .ok (.aload_n 0, 1) := by decide +kernel
theorem dX11_find_278 : decode cX11_find 278 = .ok (.iload_n 1, 1) := by decide +kernel
theorem dX11_find_279 : decode cX11_find 279 = .ok (.iload_n 2, 1) := by decide +kernel
theorem dX11_find_280 : decode cX11_find 280 = .ok (.iload 4, 2) := by decide +kernel
theorem dX11_find_282 : decode cX11_find 282 = .ok (.invokevirtual 267, 3) := by decide +kernel
theorem dX11_find_285 : decode cX11_find 285 = .ok (.istore 7, 2) := by decide +kernel
theorem dX11_find_287 : decode cX11_find 287 = .ok (.iload 7, 2) := by decide +kernel
theorem dX11_find_289 : decode cX11_find 289 = .ok (.ldc_w 271, 3) := by decide +kernel
theorem dX11_find_292 : decode cX11_find 292 = .ok (.if_icmp .ge 10, 3) := by decide +kernel
theorem dX11_find_295 : decode cX11_find 295 = .ok (.aload_n 0, 1) := by decide +kernel
theorem dX11_find_296 : decode cX11_find 296 = .ok (.iload_n 3, 1) := by decide +kernel
theorem dX11_find_297 : decode cX11_find 297 = .ok (.iload 7, 2) := by decide +kernel
theorem dX11_find_299 : decode cX11_find 299 = .ok (.invokevirtual 272, 3) := by decide +kernel
theorem dX11_find_302 : decode cX11_find 302 = .ok (.goto (-238), 3) := by decide +kernel
theorem dX11_find_305 : decode cX11_find 305 = .ok (.aload_n 0, 1) := by decide +kernel
theorem dX11_find_306 : decode cX11_find 306 = .ok (.getfield 68, 3) := by decide +kernel
theorem dX11_find_309 : decode cX11_find 309 = .ok (.iload_n 3, 1) := by decide +kernel
theorem dX11_find_310 : decode cX11_find 310 = .ok (.iaload, 1) := by decide +kernel
theorem dX11_find_311 : decode cX11_find 311 = .ok (.ireturn, 1) := by decide +kernel
theorem dX11_strain_0 : decode cX11_strain 0 = .ok (.iconst 0, 1) := by decide +kernel
theorem dX11_strain_1 : decode cX11_strain 1 = .ok (.istore 4, 2) := by decide +kernel
theorem dX11_strain_3 : decode cX11_strain 3 = .ok (.ldc_w 271, 3) := by decide +kernel
theorem dX11_strain_6 : decode cX11_strain 6 = .ok (.istore 5, 2) := by decide +kernel
theorem dX11_strain_8 : decode cX11_strain 8 = .ok (.iconst 0, 1) := by decide +kernel
theorem dX11_strain_9 : decode cX11_strain 9 = .ok (.istore 6, 2) := by decide +kernel
theorem dX11_strain_11 : decode cX11_strain 11 = .ok (.iconst 0, 1) := by decide +kernel
theorem dX11_strain_12 : decode cX11_strain 12 = .ok (.istore 7, 2) := by decide +kernel
theorem dX11_strain_14 : decode cX11_strain 14 = .ok (.iconst 0, 1) := by decide +kernel
theorem dX11_strain_15 : decode cX11_strain 15 = .ok (.istore 8, 2) := by decide +kernel
theorem dX11_strain_17 : decode cX11_strain 17 = .ok (.iconst 0, 1) := by decide +kernel
theorem dX11_strain_18 : decode cX11_strain 18 = .ok (.istore 9, 2) := by decide +kernel
theorem dX11_strain_20 : decode cX11_strain 20 = .ok (.iconst 0, 1) := by decide +kernel
theorem dX11_strain_21 : decode cX11_strain 21 = .ok (.istore 10, 2) := by decide +kernel
theorem dX11_strain_23 : decode cX11_strain 23 = .ok (.iload 10, 2) := by decide +kernel
theorem dX11_strain_25 : decode cX11_strain 25 = .ok (.aload_n 0, 1) := by decide +kernel
theorem dX11_strain_26 : decode cX11_strain 26 = .ok (.getfield 264, 3) := by decide +kernel
theorem dX11_strain_29 : decode cX11_strain 29 = .ok (.if_icmp .ge 154, 3) := by decide +kernel
theorem dX11_strain_32 : decode cX11_strain 32 = .ok (.aload_n 0, 1) := by decide +kernel
theorem dX11_strain_33 : decode cX11_strain 33 = .ok (.getfield 77, 3) := by decide +kernel
theorem dX11_strain_36 : decode cX11_strain 36 = .ok (.iload 10, 2) := by decide +kernel
theorem dX11_strain_38 : decode cX11_strain 38 = .ok (.iaload, 1) := by decide +kernel
theorem dX11_strain_39 : decode cX11_strain 39 = .ok (.iconst (-1), 1) := by decide +kernel
theorem dX11_strain_40 : decode cX11_strain 40 = .ok (.if_icmp .ne 9, 3) := by decide +kernel
theorem dX11_strain_43 : decode cX11_strain 43 = .ok (.iinc 6 1, 3) := by decide +kernel
theorem dX11_strain_46 : decode cX11_strain 46 = .ok (.goto 131, 3) := by decide +kernel
theorem dX11_strain_49 : decode cX11_strain 49 = .ok (.aload_n 0, 1) := by decide +kernel
theorem dX11_strain_50 : decode cX11_strain 50 = .ok (.getfield 50, 3) := by decide +kernel
theorem dX11_strain_53 : decode cX11_strain 53 = .ok (.iload 10, 2) := by decide +kernel
theorem dX11_strain_55 : decode cX11_strain 55 = .ok (.iaload, 1) := by decide +kernel
theorem dX11_strain_56 : decode cX11_strain 56 = .ok (.iload_n 2, 1) := by decide +kernel
theorem dX11_strain_57 : decode cX11_strain 57 = .ok (.iadd, 1) := by decide +kernel
theorem dX11_strain_58 : decode cX11_strain 58 = .ok (.aload_n 0, 1) := by decide +kernel
theorem dX11_strain_59 : decode cX11_strain 59 = .ok (.getfield 77, 3) := by decide +kernel
theorem dX11_strain_62 : decode cX11_strain 62 = .ok (.iload 10, 2) := by decide +kernel
theorem dX11_strain_64 : decode cX11_strain 64 = .ok (.iaload, 1) := by decide +kernel
theorem dX11_strain_65 : decode cX11_strain 65 = .ok (.iadd, 1) := by decide +kernel
theorem dX11_strain_66 : decode cX11_strain 66 = .ok (.istore 11, 2) := by decide +kernel
theorem dX11_strain_68 : decode cX11_strain 68 = .ok (.iload 4, 2) := by decide +kernel
theorem dX11_strain_70 : decode cX11_strain 70 = .ok (.iconst 1, 1) := by decide +kernel
theorem dX11_strain_71 : decode cX11_strain 71 = .ok (.iload 11, 2) := by decide +kernel
theorem dX11_strain_73 : decode cX11_strain 73 = .ok (.bipush 12, 2) := by decide +kernel
theorem dX11_strain_75 : decode cX11_strain 75 = .ok (.irem, 1) := by decide +kernel
theorem dX11_strain_76 : decode cX11_strain 76 = .ok (.ishl, 1) := by decide +kernel
theorem dX11_strain_77 : decode cX11_strain 77 = .ok (.ior, 1) := by decide +kernel
theorem dX11_strain_78 : decode cX11_strain 78 = .ok (.istore 4, 2) := by decide +kernel
theorem dX11_strain_80 : decode cX11_strain 80 = .ok (.iload 11, 2) := by decide +kernel
theorem dX11_strain_82 : decode cX11_strain 82 = .ok (.iload 5, 2) := by decide +kernel
theorem dX11_strain_84 : decode cX11_strain 84 = .ok (.if_icmp .ge 8, 3) := by decide +kernel
theorem dX11_strain_87 : decode cX11_strain 87 = .ok (.iload 11, 2) := by decide +kernel
