/-! THE INSTRUCTIONS OF THE METHODS THAT ARE WALKED BY HAND -/
theorem d_25_0 : mj_cd 25 0 = some (.aload_n 0, 1, 0, 0) := rfl
theorem d_25_1 : mj_cd 25 1 = some (.getfield 30, 3, 1, 1) := rfl
theorem d_25_4 : mj_cd 25 4 = some (.sipush 160, 3, 0, 0) := rfl
theorem d_25_7 : mj_cd 25 7 = some (.if_icmp .lt 6, 3, 0, 0) := rfl
theorem d_25_10 : mj_cd 25 10 = some (.bipush (-4), 2, 0, 0) := rfl
theorem d_25_12 : mj_cd 25 12 = some (.ireturn, 1, 0, 0) := rfl
theorem d_25_13 : mj_cd 25 13 = some (.aload_n 0, 1, 0, 0) := rfl
theorem d_25_14 : mj_cd 25 14 = some (.getfield 9, 3, 1, 0) := rfl
theorem d_25_17 : mj_cd 25 17 = some (.aload_n 0, 1, 0, 0) := rfl
theorem d_25_18 : mj_cd 25 18 = some (.getfield 30, 3, 1, 1) := rfl
theorem d_25_21 : mj_cd 25 21 = some (.iload_n 1, 1, 0, 0) := rfl
theorem d_25_22 : mj_cd 25 22 = some (.iastore, 1, 0, 0) := rfl
theorem d_25_23 : mj_cd 25 23 = some (.aload_n 0, 1, 0, 0) := rfl
theorem d_25_24 : mj_cd 25 24 = some (.dup, 1, 0, 0) := rfl
theorem d_25_25 : mj_cd 25 25 = some (.getfield 30, 3, 1, 1) := rfl
theorem d_25_28 : mj_cd 25 28 = some (.iconst 1, 1, 0, 0) := rfl
theorem d_25_29 : mj_cd 25 29 = some (.iadd, 1, 0, 0) := rfl
theorem d_25_30 : mj_cd 25 30 = some (.putfield 30, 3, 1, 1) := rfl
theorem d_25_33 : mj_cd 25 33 = some (.aload_n 0, 1, 0, 0) := rfl
theorem d_25_34 : mj_cd 25 34 = some (.getfield 30, 3, 1, 1) := rfl
theorem d_25_37 : mj_cd 25 37 = some (.ireturn, 1, 0, 0) := rfl
theorem d_26_0 : mj_cd 26 0 = some (.aload_n 0, 1, 0, 0) := rfl
theorem d_26_1 : mj_cd 26 1 = some (.iconst 0, 1, 0, 0) := rfl
theorem d_26_2 : mj_cd 26 2 = some (.putfield 56, 3, 1, 5) := rfl
theorem d_26_5 : mj_cd 26 5 = some (.iconst 0, 1, 0, 0) := rfl
theorem d_26_6 : mj_cd 26 6 = some (.istore_n 1, 1, 0, 0) := rfl
theorem d_26_7 : mj_cd 26 7 = some (.iconst 0, 1, 0, 0) := rfl
theorem d_26_8 : mj_cd 26 8 = some (.istore_n 2, 1, 0, 0) := rfl
theorem d_26_9 : mj_cd 26 9 = some (.iload_n 2, 1, 0, 0) := rfl
theorem d_26_10 : mj_cd 26 10 = some (.sipush 160, 3, 0, 0) := rfl
theorem d_26_13 : mj_cd 26 13 = some (.if_icmp .ge 97, 3, 0, 0) := rfl
theorem d_26_16 : mj_cd 26 16 = some (.iload_n 1, 1, 0, 0) := rfl
theorem d_26_17 : mj_cd 26 17 = some (.aload_n 0, 1, 0, 0) := rfl
theorem d_26_18 : mj_cd 26 18 = some (.getfield 30, 3, 1, 1) := rfl
theorem d_26_21 : mj_cd 26 21 = some (.if_icmp .ge 89, 3, 0, 0) := rfl
theorem d_26_24 : mj_cd 26 24 = some (.aload_n 0, 1, 0, 0) := rfl
theorem d_26_25 : mj_cd 26 25 = some (.getfield 9, 3, 1, 0) := rfl
theorem d_26_28 : mj_cd 26 28 = some (.iload_n 1, 1, 0, 0) := rfl
theorem d_26_29 : mj_cd 26 29 = some (.iaload, 1, 0, 0) := rfl
theorem d_26_30 : mj_cd 26 30 = some (.istore_n 3, 1, 0, 0) := rfl
theorem d_26_31 : mj_cd 26 31 = some (.iload_n 3, 1, 0, 0) := rfl
theorem d_26_32 : mj_cd 26 32 = some (.bipush 32, 2, 0, 0) := rfl
theorem d_26_34 : mj_cd 26 34 = some (.if_icmp .eq 9, 3, 0, 0) := rfl
theorem d_26_37 : mj_cd 26 37 = some (.iload_n 3, 1, 0, 0) := rfl
theorem d_26_38 : mj_cd 26 38 = some (.bipush 10, 2, 0, 0) := rfl
theorem d_26_40 : mj_cd 26 40 = some (.if_icmp .ne 9, 3, 0, 0) := rfl
theorem d_26_43 : mj_cd 26 43 = some (.iinc 1 1, 3, 0, 0) := rfl
theorem d_26_46 : mj_cd 26 46 = some (.goto 58, 3, 0, 0) := rfl
theorem d_26_49 : mj_cd 26 49 = some (.iload_n 3, 1, 0, 0) := rfl
theorem d_26_50 : mj_cd 26 50 = some (.invokestatic 59, 3, 32, 0) := rfl
theorem d_26_53 : mj_cd 26 53 = some (.ifCond .eq 12, 3, 0, 0) := rfl
theorem d_26_56 : mj_cd 26 56 = some (.aload_n 0, 1, 0, 0) := rfl
theorem d_26_57 : mj_cd 26 57 = some (.iload_n 1, 1, 0, 0) := rfl
theorem d_26_58 : mj_cd 26 58 = some (.invokevirtual 63, 3, 27, 0) := rfl
theorem d_26_61 : mj_cd 26 61 = some (.istore_n 1, 1, 0, 0) := rfl
theorem d_26_62 : mj_cd 26 62 = some (.goto 42, 3, 0, 0) := rfl
theorem d_26_65 : mj_cd 26 65 = some (.iload_n 3, 1, 0, 0) := rfl
theorem d_26_66 : mj_cd 26 66 = some (.invokestatic 67, 3, 33, 0) := rfl
theorem d_26_69 : mj_cd 26 69 = some (.ifCond .eq 12, 3, 0, 0) := rfl
theorem d_26_72 : mj_cd 26 72 = some (.aload_n 0, 1, 0, 0) := rfl
theorem d_26_73 : mj_cd 26 73 = some (.iload_n 1, 1, 0, 0) := rfl
theorem d_26_74 : mj_cd 26 74 = some (.invokevirtual 70, 3, 28, 0) := rfl
theorem d_26_77 : mj_cd 26 77 = some (.istore_n 1, 1, 0, 0) := rfl
theorem d_26_78 : mj_cd 26 78 = some (.goto 26, 3, 0, 0) := rfl
theorem d_26_81 : mj_cd 26 81 = some (.aload_n 0, 1, 0, 0) := rfl
theorem d_26_82 : mj_cd 26 82 = some (.iload_n 3, 1, 0, 0) := rfl
theorem d_26_83 : mj_cd 26 83 = some (.invokestatic 73, 3, 48, 0) := rfl
theorem d_26_86 : mj_cd 26 86 = some (.ifCond .eq 7, 3, 0, 0) := rfl
theorem d_26_89 : mj_cd 26 89 = some (.iload_n 3, 1, 0, 0) := rfl
theorem d_26_90 : mj_cd 26 90 = some (.goto 6, 3, 0, 0) := rfl
theorem d_26_93 : mj_cd 26 93 = some (.sipush 303, 3, 0, 0) := rfl
theorem d_26_96 : mj_cd 26 96 = some (.iload_n 1, 1, 0, 0) := rfl
theorem d_26_97 : mj_cd 26 97 = some (.iconst 0, 1, 0, 0) := rfl
theorem d_26_98 : mj_cd 26 98 = some (.invokevirtual 76, 3, 42, 0) := rfl
theorem d_26_101 : mj_cd 26 101 = some (.iinc 1 1, 3, 0, 0) := rfl
theorem d_26_104 : mj_cd 26 104 = some (.iinc 2 1, 3, 0, 0) := rfl
theorem d_26_107 : mj_cd 26 107 = some (.goto (-98), 3, 0, 0) := rfl
theorem d_26_110 : mj_cd 26 110 = some (.aload_n 0, 1, 0, 0) := rfl
theorem d_26_111 : mj_cd 26 111 = some (.sipush 302, 3, 0, 0) := rfl
theorem d_26_114 : mj_cd 26 114 = some (.aload_n 0, 1, 0, 0) := rfl
theorem d_26_115 : mj_cd 26 115 = some (.getfield 30, 3, 1, 1) := rfl
theorem d_26_118 : mj_cd 26 118 = some (.iconst 0, 1, 0, 0) := rfl
theorem d_26_119 : mj_cd 26 119 = some (.invokevirtual 76, 3, 42, 0) := rfl
theorem d_26_122 : mj_cd 26 122 = some (.return_, 1, 0, 0) := rfl
theorem d_27_0 : mj_cd 27 0 = some (.iconst 0, 1, 0, 0) := rfl
theorem d_27_1 : mj_cd 27 1 = some (.istore_n 2, 1, 0, 0) := rfl
theorem d_27_2 : mj_cd 27 2 = some (.iload_n 1, 1, 0, 0) := rfl
theorem d_27_3 : mj_cd 27 3 = some (.istore_n 3, 1, 0, 0) := rfl
theorem d_27_4 : mj_cd 27 4 = some (.iload_n 3, 1, 0, 0) := rfl
theorem d_27_5 : mj_cd 27 5 = some (.aload_n 0, 1, 0, 0) := rfl
theorem d_27_6 : mj_cd 27 6 = some (.getfield 30, 3, 1, 1) := rfl
theorem d_27_9 : mj_cd 27 9 = some (.if_icmp .ge 36, 3, 0, 0) := rfl
theorem d_27_12 : mj_cd 27 12 = some (.aload_n 0, 1, 0, 0) := rfl
theorem d_27_13 : mj_cd 27 13 = some (.getfield 9, 3, 1, 0) := rfl
theorem d_27_16 : mj_cd 27 16 = some (.iload_n 3, 1, 0, 0) := rfl
theorem d_27_17 : mj_cd 27 17 = some (.iaload, 1, 0, 0) := rfl
theorem d_27_18 : mj_cd 27 18 = some (.invokestatic 59, 3, 32, 0) := rfl
theorem d_27_21 : mj_cd 27 21 = some (.ifCond .eq 24, 3, 0, 0) := rfl
theorem d_27_24 : mj_cd 27 24 = some (.iload_n 2, 1, 0, 0) := rfl
theorem d_27_25 : mj_cd 27 25 = some (.bipush 10, 2, 0, 0) := rfl
theorem d_27_27 : mj_cd 27 27 = some (.imul, 1, 0, 0) := rfl
theorem d_27_28 : mj_cd 27 28 = some (.aload_n 0, 1, 0, 0) := rfl
theorem d_27_29 : mj_cd 27 29 = some (.getfield 9, 3, 1, 0) := rfl
theorem d_27_32 : mj_cd 27 32 = some (.iload_n 3, 1, 0, 0) := rfl
theorem d_27_33 : mj_cd 27 33 = some (.iaload, 1, 0, 0) := rfl
theorem d_27_34 : mj_cd 27 34 = some (.iadd, 1, 0, 0) := rfl
theorem d_27_35 : mj_cd 27 35 = some (.bipush 48, 2, 0, 0) := rfl
theorem d_27_37 : mj_cd 27 37 = some (.isub, 1, 0, 0) := rfl
theorem d_27_38 : mj_cd 27 38 = some (.istore_n 2, 1, 0, 0) := rfl
theorem d_27_39 : mj_cd 27 39 = some (.iinc 3 1, 3, 0, 0) := rfl
theorem d_27_42 : mj_cd 27 42 = some (.goto (-38), 3, 0, 0) := rfl
theorem d_27_45 : mj_cd 27 45 = some (.aload_n 0, 1, 0, 0) := rfl
theorem d_27_46 : mj_cd 27 46 = some (.iload_n 3, 1, 0, 0) := rfl
theorem d_27_47 : mj_cd 27 47 = some (.iload_n 1, 1, 0, 0) := rfl
theorem d_27_48 : mj_cd 27 48 = some (.isub, 1, 0, 0) := rfl
theorem d_27_49 : mj_cd 27 49 = some (.iconst 4, 1, 0, 0) := rfl
theorem d_27_50 : mj_cd 27 50 = some (.if_icmp .le 9, 3, 0, 0) := rfl
theorem d_27_53 : mj_cd 27 53 = some (.sipush 303, 3, 0, 0) := rfl
theorem d_27_56 : mj_cd 27 56 = some (.goto 6, 3, 0, 0) := rfl
theorem d_27_59 : mj_cd 27 59 = some (.sipush 301, 3, 0, 0) := rfl
theorem d_27_62 : mj_cd 27 62 = some (.iload_n 1, 1, 0, 0) := rfl
theorem d_27_63 : mj_cd 27 63 = some (.iload_n 2, 1, 0, 0) := rfl
theorem d_27_64 : mj_cd 27 64 = some (.invokevirtual 76, 3, 42, 0) := rfl
theorem d_27_67 : mj_cd 27 67 = some (.iload_n 3, 1, 0, 0) := rfl
theorem d_27_68 : mj_cd 27 68 = some (.ireturn, 1, 0, 0) := rfl
theorem d_28_0 : mj_cd 28 0 = some (.iload_n 1, 1, 0, 0) := rfl
theorem d_28_1 : mj_cd 28 1 = some (.istore_n 2, 1, 0, 0) := rfl
theorem d_28_2 : mj_cd 28 2 = some (.iload_n 2, 1, 0, 0) := rfl
theorem d_28_3 : mj_cd 28 3 = some (.aload_n 0, 1, 0, 0) := rfl
theorem d_28_4 : mj_cd 28 4 = some (.getfield 30, 3, 1, 1) := rfl
theorem d_28_7 : mj_cd 28 7 = some (.if_icmp .ge 21, 3, 0, 0) := rfl
theorem d_28_10 : mj_cd 28 10 = some (.aload_n 0, 1, 0, 0) := rfl
theorem d_28_11 : mj_cd 28 11 = some (.getfield 9, 3, 1, 0) := rfl
theorem d_28_14 : mj_cd 28 14 = some (.iload_n 2, 1, 0, 0) := rfl
theorem d_28_15 : mj_cd 28 15 = some (.iaload, 1, 0, 0) := rfl
theorem d_28_16 : mj_cd 28 16 = some (.invokestatic 67, 3, 33, 0) := rfl
theorem d_28_19 : mj_cd 28 19 = some (.ifCond .eq 9, 3, 0, 0) := rfl
theorem d_28_22 : mj_cd 28 22 = some (.iinc 2 1, 3, 0, 0) := rfl
theorem d_28_25 : mj_cd 28 25 = some (.goto (-23), 3, 0, 0) := rfl
theorem d_28_28 : mj_cd 28 28 = some (.aload_n 0, 1, 0, 0) := rfl
theorem d_28_29 : mj_cd 28 29 = some (.iload_n 1, 1, 0, 0) := rfl
theorem d_28_30 : mj_cd 28 30 = some (.iload_n 2, 1, 0, 0) := rfl
theorem d_28_31 : mj_cd 28 31 = some (.invokevirtual 80, 3, 43, 0) := rfl
theorem d_28_34 : mj_cd 28 34 = some (.istore_n 3, 1, 0, 0) := rfl
theorem d_28_35 : mj_cd 28 35 = some (.iload_n 3, 1, 0, 0) := rfl
theorem d_28_36 : mj_cd 28 36 = some (.iconst (-1), 1, 0, 0) := rfl
theorem d_28_37 : mj_cd 28 37 = some (.if_icmp .ne 15, 3, 0, 0) := rfl
theorem d_28_40 : mj_cd 28 40 = some (.aload_n 0, 1, 0, 0) := rfl
theorem d_28_41 : mj_cd 28 41 = some (.sipush 303, 3, 0, 0) := rfl
theorem d_28_44 : mj_cd 28 44 = some (.iload_n 1, 1, 0, 0) := rfl
theorem d_28_45 : mj_cd 28 45 = some (.iconst 0, 1, 0, 0) := rfl
theorem d_28_46 : mj_cd 28 46 = some (.invokevirtual 76, 3, 42, 0) := rfl
theorem d_28_49 : mj_cd 28 49 = some (.goto 32, 3, 0, 0) := rfl
theorem d_28_52 : mj_cd 28 52 = some (.iload_n 3, 1, 0, 0) := rfl
theorem d_28_53 : mj_cd 28 53 = some (.bipush 6, 2, 0, 0) := rfl
theorem d_28_55 : mj_cd 28 55 = some (.if_icmp .ge 15, 3, 0, 0) := rfl
theorem d_28_58 : mj_cd 28 58 = some (.aload_n 0, 1, 0, 0) := rfl
theorem d_28_59 : mj_cd 28 59 = some (.sipush 300, 3, 0, 0) := rfl
theorem d_28_62 : mj_cd 28 62 = some (.iload_n 1, 1, 0, 0) := rfl
theorem d_28_63 : mj_cd 28 63 = some (.iload_n 3, 1, 0, 0) := rfl
theorem d_28_64 : mj_cd 28 64 = some (.invokevirtual 76, 3, 42, 0) := rfl
theorem d_28_67 : mj_cd 28 67 = some (.goto 14, 3, 0, 0) := rfl
theorem d_28_70 : mj_cd 28 70 = some (.aload_n 0, 1, 0, 0) := rfl
theorem d_28_71 : mj_cd 28 71 = some (.sipush 256, 3, 0, 0) := rfl
theorem d_28_74 : mj_cd 28 74 = some (.iload_n 3, 1, 0, 0) := rfl
theorem d_28_75 : mj_cd 28 75 = some (.iadd, 1, 0, 0) := rfl
theorem d_28_76 : mj_cd 28 76 = some (.iload_n 1, 1, 0, 0) := rfl
theorem d_28_77 : mj_cd 28 77 = some (.iconst 0, 1, 0, 0) := rfl
theorem d_28_78 : mj_cd 28 78 = some (.invokevirtual 76, 3, 42, 0) := rfl
theorem d_28_81 : mj_cd 28 81 = some (.iload_n 2, 1, 0, 0) := rfl
theorem d_28_82 : mj_cd 28 82 = some (.ireturn, 1, 0, 0) := rfl
theorem d_29_0 : mj_cd 29 0 = some (.aload_n 0, 1, 0, 0) := rfl
theorem d_29_1 : mj_cd 29 1 = some (.getfield 40, 3, 1, 7) := rfl
theorem d_29_4 : mj_cd 29 4 = some (.iconst (-1), 1, 0, 0) := rfl
theorem d_29_5 : mj_cd 29 5 = some (.if_icmp .eq 4, 3, 0, 0) := rfl
theorem d_29_8 : mj_cd 29 8 = some (.return_, 1, 0, 0) := rfl
theorem d_29_9 : mj_cd 29 9 = some (.iload_n 1, 1, 0, 0) := rfl
theorem d_29_10 : mj_cd 29 10 = some (.iconst 5, 1, 0, 0) := rfl
theorem d_29_11 : mj_cd 29 11 = some (.if_icmp .lt 9, 3, 0, 0) := rfl
theorem d_29_14 : mj_cd 29 14 = some (.aload_n 0, 1, 0, 0) := rfl
theorem d_29_15 : mj_cd 29 15 = some (.iload_n 2, 1, 0, 0) := rfl
theorem d_29_16 : mj_cd 29 16 = some (.invokestatic 102, 3, 36, 0) := rfl
theorem d_29_19 : mj_cd 29 19 = some (.return_, 1, 0, 0) := rfl
theorem d_29_20 : mj_cd 29 20 = some (.iload_n 1, 1, 0, 0) := rfl
theorem d_29_21 : mj_cd 29 21 = some (.iconst 2, 1, 0, 0) := rfl
theorem d_29_22 : mj_cd 29 22 = some (.if_icmp .ne 42, 3, 0, 0) := rfl
theorem d_29_25 : mj_cd 29 25 = some (.aload_n 0, 1, 0, 0) := rfl
theorem d_29_26 : mj_cd 29 26 = some (.getfield 15, 3, 1, 2) := rfl
theorem d_29_29 : mj_cd 29 29 = some (.aload_n 0, 1, 0, 0) := rfl
theorem d_29_30 : mj_cd 29 30 = some (.getfield 37, 3, 1, 6) := rfl
theorem d_29_33 : mj_cd 29 33 = some (.iaload, 1, 0, 0) := rfl
theorem d_29_34 : mj_cd 29 34 = some (.sipush 267, 3, 0, 0) := rfl
theorem d_29_37 : mj_cd 29 37 = some (.if_icmp .ne 27, 3, 0, 0) := rfl
theorem d_29_40 : mj_cd 29 40 = some (.aload_n 0, 1, 0, 0) := rfl
theorem d_29_41 : mj_cd 29 41 = some (.iload_n 2, 1, 0, 0) := rfl
theorem d_29_42 : mj_cd 29 42 = some (.invokevirtual 106, 3, 37, 0) := rfl
theorem d_29_45 : mj_cd 29 45 = some (.ifCond .eq 18, 3, 0, 0) := rfl
theorem d_29_48 : mj_cd 29 48 = some (.aload_n 0, 1, 0, 0) := rfl
theorem d_29_49 : mj_cd 29 49 = some (.iconst 2, 1, 0, 0) := rfl
theorem d_29_50 : mj_cd 29 50 = some (.iload_n 2, 1, 0, 0) := rfl
theorem d_29_51 : mj_cd 29 51 = some (.iconst 1, 1, 0, 0) := rfl
theorem d_29_52 : mj_cd 29 52 = some (.iadd, 1, 0, 0) := rfl
theorem d_29_53 : mj_cd 29 53 = some (.invokestatic 52, 3, 29, 0) := rfl
theorem d_29_56 : mj_cd 29 56 = some (.aload_n 0, 1, 0, 0) := rfl
theorem d_29_57 : mj_cd 29 57 = some (.sipush (-267), 3, 0, 0) := rfl
theorem d_29_60 : mj_cd 29 60 = some (.invokevirtual 109, 3, 41, 0) := rfl
theorem d_29_63 : mj_cd 29 63 = some (.return_, 1, 0, 0) := rfl
theorem d_29_64 : mj_cd 29 64 = some (.aload_n 0, 1, 0, 0) := rfl
theorem d_29_65 : mj_cd 29 65 = some (.iload_n 1, 1, 0, 0) := rfl
theorem d_29_66 : mj_cd 29 66 = some (.iconst 1, 1, 0, 0) := rfl
theorem d_29_67 : mj_cd 29 67 = some (.iadd, 1, 0, 0) := rfl
theorem d_29_68 : mj_cd 29 68 = some (.iload_n 2, 1, 0, 0) := rfl
theorem d_29_69 : mj_cd 29 69 = some (.invokestatic 52, 3, 29, 0) := rfl
theorem d_29_72 : mj_cd 29 72 = some (.iload_n 1, 1, 0, 0) := rfl
theorem d_29_73 : mj_cd 29 73 = some (.iconst 2, 1, 0, 0) := rfl
theorem d_29_74 : mj_cd 29 74 = some (.if_icmp .ne 7, 3, 0, 0) := rfl
theorem d_29_77 : mj_cd 29 77 = some (.iconst 1, 1, 0, 0) := rfl
theorem d_29_78 : mj_cd 29 78 = some (.goto 6, 3, 0, 0) := rfl
theorem d_29_81 : mj_cd 29 81 = some (.sipush 160, 3, 0, 0) := rfl
theorem d_29_84 : mj_cd 29 84 = some (.istore_n 3, 1, 0, 0) := rfl
theorem d_29_85 : mj_cd 29 85 = some (.iconst 0, 1, 0, 0) := rfl
theorem d_29_86 : mj_cd 29 86 = some (.istore 4, 2, 0, 0) := rfl
theorem d_29_88 : mj_cd 29 88 = some (.iload 4, 2, 0, 0) := rfl
theorem d_29_90 : mj_cd 29 90 = some (.iload_n 3, 1, 0, 0) := rfl
theorem d_29_91 : mj_cd 29 91 = some (.if_icmp .ge 63, 3, 0, 0) := rfl
theorem d_29_94 : mj_cd 29 94 = some (.aload_n 0, 1, 0, 0) := rfl
theorem d_29_95 : mj_cd 29 95 = some (.getfield 40, 3, 1, 7) := rfl
theorem d_29_98 : mj_cd 29 98 = some (.iconst (-1), 1, 0, 0) := rfl
theorem d_29_99 : mj_cd 29 99 = some (.if_icmp .ne 55, 3, 0, 0) := rfl
theorem d_29_102 : mj_cd 29 102 = some (.aload_n 0, 1, 0, 0) := rfl
theorem d_29_103 : mj_cd 29 103 = some (.getfield 15, 3, 1, 2) := rfl
theorem d_29_106 : mj_cd 29 106 = some (.aload_n 0, 1, 0, 0) := rfl
theorem d_29_107 : mj_cd 29 107 = some (.getfield 37, 3, 1, 6) := rfl
theorem d_29_110 : mj_cd 29 110 = some (.iaload, 1, 0, 0) := rfl
theorem d_29_111 : mj_cd 29 111 = some (.iload_n 1, 1, 0, 0) := rfl
theorem d_29_112 : mj_cd 29 112 = some (.invokestatic 112, 3, 34, 0) := rfl
theorem d_29_115 : mj_cd 29 115 = some (.ifCond .eq 39, 3, 0, 0) := rfl
theorem d_29_118 : mj_cd 29 118 = some (.aload_n 0, 1, 0, 0) := rfl
theorem d_29_119 : mj_cd 29 119 = some (.getfield 15, 3, 1, 2) := rfl
theorem d_29_122 : mj_cd 29 122 = some (.aload_n 0, 1, 0, 0) := rfl
theorem d_29_123 : mj_cd 29 123 = some (.getfield 37, 3, 1, 6) := rfl
theorem d_29_126 : mj_cd 29 126 = some (.iaload, 1, 0, 0) := rfl
theorem d_29_127 : mj_cd 29 127 = some (.istore 5, 2, 0, 0) := rfl
theorem d_29_129 : mj_cd 29 129 = some (.aload_n 0, 1, 0, 0) := rfl
theorem d_29_130 : mj_cd 29 130 = some (.invokevirtual 116, 3, 38, 0) := rfl
theorem d_29_133 : mj_cd 29 133 = some (.aload_n 0, 1, 0, 0) := rfl
theorem d_29_134 : mj_cd 29 134 = some (.iload_n 1, 1, 0, 0) := rfl
theorem d_29_135 : mj_cd 29 135 = some (.iconst 1, 1, 0, 0) := rfl
theorem d_29_136 : mj_cd 29 136 = some (.iadd, 1, 0, 0) := rfl
theorem d_29_137 : mj_cd 29 137 = some (.iload_n 2, 1, 0, 0) := rfl
theorem d_29_138 : mj_cd 29 138 = some (.invokestatic 52, 3, 29, 0) := rfl
theorem d_29_141 : mj_cd 29 141 = some (.aload_n 0, 1, 0, 0) := rfl
theorem d_29_142 : mj_cd 29 142 = some (.iload 5, 2, 0, 0) := rfl
theorem d_29_144 : mj_cd 29 144 = some (.ineg, 1, 0, 0) := rfl
theorem d_29_145 : mj_cd 29 145 = some (.invokevirtual 109, 3, 41, 0) := rfl
theorem d_29_148 : mj_cd 29 148 = some (.iinc 4 1, 3, 0, 0) := rfl
theorem d_29_151 : mj_cd 29 151 = some (.goto (-63), 3, 0, 0) := rfl
theorem d_29_154 : mj_cd 29 154 = some (.return_, 1, 0, 0) := rfl
theorem d_30_0 : mj_cd 30 0 = some (.aload_n 0, 1, 0, 0) := rfl
theorem d_30_1 : mj_cd 30 1 = some (.getfield 40, 3, 1, 7) := rfl
theorem d_30_4 : mj_cd 30 4 = some (.iconst (-1), 1, 0, 0) := rfl
theorem d_30_5 : mj_cd 30 5 = some (.if_icmp .ne 16, 3, 0, 0) := rfl
theorem d_30_8 : mj_cd 30 8 = some (.aload_n 0, 1, 0, 0) := rfl
theorem d_30_9 : mj_cd 30 9 = some (.aload_n 0, 1, 0, 0) := rfl
theorem d_30_10 : mj_cd 30 10 = some (.getfield 18, 3, 1, 3) := rfl
theorem d_30_13 : mj_cd 30 13 = some (.aload_n 0, 1, 0, 0) := rfl
theorem d_30_14 : mj_cd 30 14 = some (.getfield 37, 3, 1, 6) := rfl
theorem d_30_17 : mj_cd 30 17 = some (.iaload, 1, 0, 0) := rfl
theorem d_30_18 : mj_cd 30 18 = some (.putfield 40, 3, 1, 7) := rfl
theorem d_30_21 : mj_cd 30 21 = some (.return_, 1, 0, 0) := rfl
theorem d_32_0 : mj_cd 32 0 = some (.iload_n 0, 1, 0, 0) := rfl
theorem d_32_1 : mj_cd 32 1 = some (.bipush 48, 2, 0, 0) := rfl
theorem d_32_3 : mj_cd 32 3 = some (.if_icmp .lt 13, 3, 0, 0) := rfl
theorem d_32_6 : mj_cd 32 6 = some (.iload_n 0, 1, 0, 0) := rfl
theorem d_32_7 : mj_cd 32 7 = some (.bipush 57, 2, 0, 0) := rfl
theorem d_32_9 : mj_cd 32 9 = some (.if_icmp .gt 7, 3, 0, 0) := rfl
theorem d_32_12 : mj_cd 32 12 = some (.iconst 1, 1, 0, 0) := rfl
theorem d_32_13 : mj_cd 32 13 = some (.goto 4, 3, 0, 0) := rfl
theorem d_32_16 : mj_cd 32 16 = some (.iconst 0, 1, 0, 0) := rfl
theorem d_32_17 : mj_cd 32 17 = some (.ireturn, 1, 0, 0) := rfl
theorem d_33_0 : mj_cd 33 0 = some (.iload_n 0, 1, 0, 0) := rfl
theorem d_33_1 : mj_cd 33 1 = some (.bipush 97, 2, 0, 0) := rfl
theorem d_33_3 : mj_cd 33 3 = some (.if_icmp .lt 13, 3, 0, 0) := rfl
theorem d_33_6 : mj_cd 33 6 = some (.iload_n 0, 1, 0, 0) := rfl
theorem d_33_7 : mj_cd 33 7 = some (.bipush 122, 2, 0, 0) := rfl
theorem d_33_9 : mj_cd 33 9 = some (.if_icmp .gt 7, 3, 0, 0) := rfl
theorem d_33_12 : mj_cd 33 12 = some (.iconst 1, 1, 0, 0) := rfl
theorem d_33_13 : mj_cd 33 13 = some (.goto 4, 3, 0, 0) := rfl
theorem d_33_16 : mj_cd 33 16 = some (.iconst 0, 1, 0, 0) := rfl
theorem d_33_17 : mj_cd 33 17 = some (.ireturn, 1, 0, 0) := rfl
theorem d_34_0 : mj_cd 34 0 = some (.iload_n 1, 1, 0, 0) := rfl
theorem d_34_1 : mj_cd 34 1 = some (.tableswitch 93 0 3 #[31, 44, 57, 75], 31, 0, 0) := rfl
theorem d_34_32 : mj_cd 34 32 = some (.iload_n 0, 1, 0, 0) := rfl
theorem d_34_33 : mj_cd 34 33 = some (.sipush 265, 3, 0, 0) := rfl
theorem d_34_36 : mj_cd 34 36 = some (.if_icmp .ne 7, 3, 0, 0) := rfl
theorem d_34_39 : mj_cd 34 39 = some (.iconst 1, 1, 0, 0) := rfl
theorem d_34_40 : mj_cd 34 40 = some (.goto 4, 3, 0, 0) := rfl
theorem d_34_43 : mj_cd 34 43 = some (.iconst 0, 1, 0, 0) := rfl
theorem d_34_44 : mj_cd 34 44 = some (.ireturn, 1, 0, 0) := rfl
theorem d_34_45 : mj_cd 34 45 = some (.iload_n 0, 1, 0, 0) := rfl
theorem d_34_46 : mj_cd 34 46 = some (.sipush 266, 3, 0, 0) := rfl
theorem d_34_49 : mj_cd 34 49 = some (.if_icmp .ne 7, 3, 0, 0) := rfl
theorem d_34_52 : mj_cd 34 52 = some (.iconst 1, 1, 0, 0) := rfl
theorem d_34_53 : mj_cd 34 53 = some (.goto 4, 3, 0, 0) := rfl
theorem d_34_56 : mj_cd 34 56 = some (.iconst 0, 1, 0, 0) := rfl
theorem d_34_57 : mj_cd 34 57 = some (.ireturn, 1, 0, 0) := rfl
theorem d_34_58 : mj_cd 34 58 = some (.iload_n 0, 1, 0, 0) := rfl
theorem d_34_59 : mj_cd 34 59 = some (.bipush 60, 2, 0, 0) := rfl
theorem d_34_61 : mj_cd 34 61 = some (.if_icmp .eq 9, 3, 0, 0) := rfl
theorem d_34_64 : mj_cd 34 64 = some (.iload_n 0, 1, 0, 0) := rfl
theorem d_34_65 : mj_cd 34 65 = some (.bipush 61, 2, 0, 0) := rfl
theorem d_34_67 : mj_cd 34 67 = some (.if_icmp .ne 7, 3, 0, 0) := rfl
theorem d_34_70 : mj_cd 34 70 = some (.iconst 1, 1, 0, 0) := rfl
theorem d_34_71 : mj_cd 34 71 = some (.goto 4, 3, 0, 0) := rfl
theorem d_34_74 : mj_cd 34 74 = some (.iconst 0, 1, 0, 0) := rfl
theorem d_34_75 : mj_cd 34 75 = some (.ireturn, 1, 0, 0) := rfl
theorem d_34_76 : mj_cd 34 76 = some (.iload_n 0, 1, 0, 0) := rfl
theorem d_34_77 : mj_cd 34 77 = some (.bipush 43, 2, 0, 0) := rfl
theorem d_34_79 : mj_cd 34 79 = some (.if_icmp .eq 9, 3, 0, 0) := rfl
theorem d_34_82 : mj_cd 34 82 = some (.iload_n 0, 1, 0, 0) := rfl
theorem d_34_83 : mj_cd 34 83 = some (.bipush 45, 2, 0, 0) := rfl
theorem d_34_85 : mj_cd 34 85 = some (.if_icmp .ne 7, 3, 0, 0) := rfl
theorem d_34_88 : mj_cd 34 88 = some (.iconst 1, 1, 0, 0) := rfl
theorem d_34_89 : mj_cd 34 89 = some (.goto 4, 3, 0, 0) := rfl
theorem d_34_92 : mj_cd 34 92 = some (.iconst 0, 1, 0, 0) := rfl
theorem d_34_93 : mj_cd 34 93 = some (.ireturn, 1, 0, 0) := rfl
theorem d_34_94 : mj_cd 34 94 = some (.iload_n 0, 1, 0, 0) := rfl
theorem d_34_95 : mj_cd 34 95 = some (.bipush 42, 2, 0, 0) := rfl
theorem d_34_97 : mj_cd 34 97 = some (.if_icmp .ne 7, 3, 0, 0) := rfl
theorem d_34_100 : mj_cd 34 100 = some (.iconst 1, 1, 0, 0) := rfl
theorem d_34_101 : mj_cd 34 101 = some (.goto 4, 3, 0, 0) := rfl
theorem d_34_104 : mj_cd 34 104 = some (.iconst 0, 1, 0, 0) := rfl
theorem d_34_105 : mj_cd 34 105 = some (.ireturn, 1, 0, 0) := rfl
theorem d_35_0 : mj_cd 35 0 = some (.aload_n 0, 1, 0, 0) := rfl
theorem d_35_1 : mj_cd 35 1 = some (.getfield 15, 3, 1, 2) := rfl
theorem d_35_4 : mj_cd 35 4 = some (.aload_n 0, 1, 0, 0) := rfl
theorem d_35_5 : mj_cd 35 5 = some (.getfield 37, 3, 1, 6) := rfl
theorem d_35_8 : mj_cd 35 8 = some (.iaload, 1, 0, 0) := rfl
theorem d_35_9 : mj_cd 35 9 = some (.iload_n 1, 1, 0, 0) := rfl
theorem d_35_10 : mj_cd 35 10 = some (.if_icmp .ne 10, 3, 0, 0) := rfl
theorem d_35_13 : mj_cd 35 13 = some (.aload_n 0, 1, 0, 0) := rfl
theorem d_35_14 : mj_cd 35 14 = some (.invokevirtual 116, 3, 38, 0) := rfl
theorem d_35_17 : mj_cd 35 17 = some (.goto 7, 3, 0, 0) := rfl
theorem d_35_20 : mj_cd 35 20 = some (.aload_n 0, 1, 0, 0) := rfl
theorem d_35_21 : mj_cd 35 21 = some (.invokevirtual 119, 3, 30, 0) := rfl
theorem d_35_24 : mj_cd 35 24 = some (.return_, 1, 0, 0) := rfl
theorem d_36_0 : mj_cd 36 0 = some (.aload_n 0, 1, 0, 0) := rfl
theorem d_36_1 : mj_cd 36 1 = some (.getfield 15, 3, 1, 2) := rfl
theorem d_36_4 : mj_cd 36 4 = some (.aload_n 0, 1, 0, 0) := rfl
theorem d_36_5 : mj_cd 36 5 = some (.getfield 37, 3, 1, 6) := rfl
theorem d_36_8 : mj_cd 36 8 = some (.iaload, 1, 0, 0) := rfl
theorem d_36_9 : mj_cd 36 9 = some (.istore_n 2, 1, 0, 0) := rfl
theorem d_36_10 : mj_cd 36 10 = some (.iload_n 2, 1, 0, 0) := rfl
theorem d_36_11 : mj_cd 36 11 = some (.sipush 301, 3, 0, 0) := rfl
theorem d_36_14 : mj_cd 36 14 = some (.if_icmp .ne 23, 3, 0, 0) := rfl
theorem d_36_17 : mj_cd 36 17 = some (.aload_n 0, 1, 0, 0) := rfl
theorem d_36_18 : mj_cd 36 18 = some (.aload_n 0, 1, 0, 0) := rfl
theorem d_36_19 : mj_cd 36 19 = some (.getfield 21, 3, 1, 4) := rfl
theorem d_36_22 : mj_cd 36 22 = some (.aload_n 0, 1, 0, 0) := rfl
theorem d_36_23 : mj_cd 36 23 = some (.getfield 37, 3, 1, 6) := rfl
theorem d_36_26 : mj_cd 36 26 = some (.iaload, 1, 0, 0) := rfl
theorem d_36_27 : mj_cd 36 27 = some (.invokevirtual 109, 3, 41, 0) := rfl
theorem d_36_30 : mj_cd 36 30 = some (.aload_n 0, 1, 0, 0) := rfl
theorem d_36_31 : mj_cd 36 31 = some (.invokevirtual 116, 3, 38, 0) := rfl
theorem d_36_34 : mj_cd 36 34 = some (.goto 98, 3, 0, 0) := rfl
theorem d_36_37 : mj_cd 36 37 = some (.iload_n 2, 1, 0, 0) := rfl
theorem d_36_38 : mj_cd 36 38 = some (.sipush 300, 3, 0, 0) := rfl
theorem d_36_41 : mj_cd 36 41 = some (.if_icmp .ne 25, 3, 0, 0) := rfl
theorem d_36_44 : mj_cd 36 44 = some (.aload_n 0, 1, 0, 0) := rfl
theorem d_36_45 : mj_cd 36 45 = some (.iconst (-1), 1, 0, 0) := rfl
theorem d_36_46 : mj_cd 36 46 = some (.aload_n 0, 1, 0, 0) := rfl
theorem d_36_47 : mj_cd 36 47 = some (.getfield 21, 3, 1, 4) := rfl
theorem d_36_50 : mj_cd 36 50 = some (.aload_n 0, 1, 0, 0) := rfl
theorem d_36_51 : mj_cd 36 51 = some (.getfield 37, 3, 1, 6) := rfl
theorem d_36_54 : mj_cd 36 54 = some (.iaload, 1, 0, 0) := rfl
theorem d_36_55 : mj_cd 36 55 = some (.isub, 1, 0, 0) := rfl
theorem d_36_56 : mj_cd 36 56 = some (.invokevirtual 109, 3, 41, 0) := rfl
theorem d_36_59 : mj_cd 36 59 = some (.aload_n 0, 1, 0, 0) := rfl
theorem d_36_60 : mj_cd 36 60 = some (.invokevirtual 116, 3, 38, 0) := rfl
theorem d_36_63 : mj_cd 36 63 = some (.goto 69, 3, 0, 0) := rfl
theorem d_36_66 : mj_cd 36 66 = some (.iload_n 2, 1, 0, 0) := rfl
theorem d_36_67 : mj_cd 36 67 = some (.bipush 45, 2, 0, 0) := rfl
theorem d_36_69 : mj_cd 36 69 = some (.if_icmp .ne 28, 3, 0, 0) := rfl
theorem d_36_72 : mj_cd 36 72 = some (.aload_n 0, 1, 0, 0) := rfl
theorem d_36_73 : mj_cd 36 73 = some (.iload_n 1, 1, 0, 0) := rfl
theorem d_36_74 : mj_cd 36 74 = some (.invokevirtual 106, 3, 37, 0) := rfl
theorem d_36_77 : mj_cd 36 77 = some (.ifCond .eq 55, 3, 0, 0) := rfl
theorem d_36_80 : mj_cd 36 80 = some (.aload_n 0, 1, 0, 0) := rfl
theorem d_36_81 : mj_cd 36 81 = some (.iload_n 1, 1, 0, 0) := rfl
theorem d_36_82 : mj_cd 36 82 = some (.iconst 1, 1, 0, 0) := rfl
theorem d_36_83 : mj_cd 36 83 = some (.iadd, 1, 0, 0) := rfl
theorem d_36_84 : mj_cd 36 84 = some (.invokestatic 102, 3, 36, 0) := rfl
theorem d_36_87 : mj_cd 36 87 = some (.aload_n 0, 1, 0, 0) := rfl
theorem d_36_88 : mj_cd 36 88 = some (.sipush (-304), 3, 0, 0) := rfl
theorem d_36_91 : mj_cd 36 91 = some (.invokevirtual 109, 3, 41, 0) := rfl
theorem d_36_94 : mj_cd 36 94 = some (.goto 38, 3, 0, 0) := rfl
theorem d_36_97 : mj_cd 36 97 = some (.iload_n 2, 1, 0, 0) := rfl
theorem d_36_98 : mj_cd 36 98 = some (.bipush 40, 2, 0, 0) := rfl
theorem d_36_100 : mj_cd 36 100 = some (.if_icmp .ne 28, 3, 0, 0) := rfl
theorem d_36_103 : mj_cd 36 103 = some (.aload_n 0, 1, 0, 0) := rfl
theorem d_36_104 : mj_cd 36 104 = some (.iload_n 1, 1, 0, 0) := rfl
theorem d_36_105 : mj_cd 36 105 = some (.invokevirtual 106, 3, 37, 0) := rfl
theorem d_36_108 : mj_cd 36 108 = some (.ifCond .eq 24, 3, 0, 0) := rfl
theorem d_36_111 : mj_cd 36 111 = some (.aload_n 0, 1, 0, 0) := rfl
theorem d_36_112 : mj_cd 36 112 = some (.iconst 0, 1, 0, 0) := rfl
theorem d_36_113 : mj_cd 36 113 = some (.iload_n 1, 1, 0, 0) := rfl
theorem d_36_114 : mj_cd 36 114 = some (.iconst 1, 1, 0, 0) := rfl
theorem d_36_115 : mj_cd 36 115 = some (.iadd, 1, 0, 0) := rfl
theorem d_36_116 : mj_cd 36 116 = some (.invokestatic 52, 3, 29, 0) := rfl
theorem d_36_119 : mj_cd 36 119 = some (.aload_n 0, 1, 0, 0) := rfl
theorem d_36_120 : mj_cd 36 120 = some (.bipush 41, 2, 0, 0) := rfl
theorem d_36_122 : mj_cd 36 122 = some (.invokevirtual 48, 3, 35, 0) := rfl
theorem d_36_125 : mj_cd 36 125 = some (.goto 7, 3, 0, 0) := rfl
theorem d_36_128 : mj_cd 36 128 = some (.aload_n 0, 1, 0, 0) := rfl
theorem d_36_129 : mj_cd 36 129 = some (.invokevirtual 119, 3, 30, 0) := rfl
theorem d_36_132 : mj_cd 36 132 = some (.return_, 1, 0, 0) := rfl
theorem d_37_0 : mj_cd 37 0 = some (.iload_n 1, 1, 0, 0) := rfl
theorem d_37_1 : mj_cd 37 1 = some (.iconst 5, 1, 0, 0) := rfl
theorem d_37_2 : mj_cd 37 2 = some (.if_icmp .lt 9, 3, 0, 0) := rfl
theorem d_37_5 : mj_cd 37 5 = some (.aload_n 0, 1, 0, 0) := rfl
theorem d_37_6 : mj_cd 37 6 = some (.invokevirtual 119, 3, 30, 0) := rfl
theorem d_37_9 : mj_cd 37 9 = some (.iconst 0, 1, 0, 0) := rfl
theorem d_37_10 : mj_cd 37 10 = some (.ireturn, 1, 0, 0) := rfl
theorem d_37_11 : mj_cd 37 11 = some (.aload_n 0, 1, 0, 0) := rfl
theorem d_37_12 : mj_cd 37 12 = some (.invokevirtual 116, 3, 38, 0) := rfl
theorem d_37_15 : mj_cd 37 15 = some (.iconst 1, 1, 0, 0) := rfl
theorem d_37_16 : mj_cd 37 16 = some (.ireturn, 1, 0, 0) := rfl
theorem d_38_0 : mj_cd 38 0 = some (.aload_n 0, 1, 0, 0) := rfl
theorem d_38_1 : mj_cd 38 1 = some (.getfield 40, 3, 1, 7) := rfl
theorem d_38_4 : mj_cd 38 4 = some (.iconst (-1), 1, 0, 0) := rfl
theorem d_38_5 : mj_cd 38 5 = some (.if_icmp .ne 26, 3, 0, 0) := rfl
theorem d_38_8 : mj_cd 38 8 = some (.aload_n 0, 1, 0, 0) := rfl
theorem d_38_9 : mj_cd 38 9 = some (.getfield 37, 3, 1, 6) := rfl
theorem d_38_12 : mj_cd 38 12 = some (.iconst 1, 1, 0, 0) := rfl
theorem d_38_13 : mj_cd 38 13 = some (.iadd, 1, 0, 0) := rfl
theorem d_38_14 : mj_cd 38 14 = some (.aload_n 0, 1, 0, 0) := rfl
theorem d_38_15 : mj_cd 38 15 = some (.getfield 56, 3, 1, 5) := rfl
theorem d_38_18 : mj_cd 38 18 = some (.if_icmp .ge 13, 3, 0, 0) := rfl
theorem d_38_21 : mj_cd 38 21 = some (.aload_n 0, 1, 0, 0) := rfl
theorem d_38_22 : mj_cd 38 22 = some (.dup, 1, 0, 0) := rfl
theorem d_38_23 : mj_cd 38 23 = some (.getfield 37, 3, 1, 6) := rfl
theorem d_38_26 : mj_cd 38 26 = some (.iconst 1, 1, 0, 0) := rfl
theorem d_38_27 : mj_cd 38 27 = some (.iadd, 1, 0, 0) := rfl
theorem d_38_28 : mj_cd 38 28 = some (.putfield 37, 3, 1, 6) := rfl
theorem d_38_31 : mj_cd 38 31 = some (.return_, 1, 0, 0) := rfl
theorem d_39_0 : mj_cd 39 0 = some (.aload_n 0, 1, 0, 0) := rfl
theorem d_39_1 : mj_cd 39 1 = some (.invokevirtual 34, 3, 26, 0) := rfl
theorem d_39_4 : mj_cd 39 4 = some (.aload_n 0, 1, 0, 0) := rfl
theorem d_39_5 : mj_cd 39 5 = some (.iconst 0, 1, 0, 0) := rfl
theorem d_39_6 : mj_cd 39 6 = some (.putfield 37, 3, 1, 6) := rfl
theorem d_39_9 : mj_cd 39 9 = some (.aload_n 0, 1, 0, 0) := rfl
theorem d_39_10 : mj_cd 39 10 = some (.iconst (-1), 1, 0, 0) := rfl
theorem d_39_11 : mj_cd 39 11 = some (.putfield 40, 3, 1, 7) := rfl
theorem d_39_14 : mj_cd 39 14 = some (.aload_n 0, 1, 0, 0) := rfl
theorem d_39_15 : mj_cd 39 15 = some (.iconst 0, 1, 0, 0) := rfl
theorem d_39_16 : mj_cd 39 16 = some (.putfield 43, 3, 1, 9) := rfl
theorem d_39_19 : mj_cd 39 19 = some (.iconst 0, 1, 0, 0) := rfl
theorem d_39_20 : mj_cd 39 20 = some (.istore_n 1, 1, 0, 0) := rfl
theorem d_39_21 : mj_cd 39 21 = some (.iload_n 1, 1, 0, 0) := rfl
theorem d_39_22 : mj_cd 39 22 = some (.iconst 3, 1, 0, 0) := rfl
theorem d_39_23 : mj_cd 39 23 = some (.if_icmp .ge 40, 3, 0, 0) := rfl
theorem d_39_26 : mj_cd 39 26 = some (.aload_n 0, 1, 0, 0) := rfl
theorem d_39_27 : mj_cd 39 27 = some (.sipush 262, 3, 0, 0) := rfl
theorem d_39_30 : mj_cd 39 30 = some (.iload_n 1, 1, 0, 0) := rfl
theorem d_39_31 : mj_cd 39 31 = some (.iadd, 1, 0, 0) := rfl
theorem d_39_32 : mj_cd 39 32 = some (.invokevirtual 48, 3, 35, 0) := rfl
theorem d_39_35 : mj_cd 39 35 = some (.aload_n 0, 1, 0, 0) := rfl
theorem d_39_36 : mj_cd 39 36 = some (.iconst 0, 1, 0, 0) := rfl
theorem d_39_37 : mj_cd 39 37 = some (.iconst 0, 1, 0, 0) := rfl
theorem d_39_38 : mj_cd 39 38 = some (.invokestatic 52, 3, 29, 0) := rfl
theorem d_39_41 : mj_cd 39 41 = some (.aload_n 0, 1, 0, 0) := rfl
theorem d_39_42 : mj_cd 39 42 = some (.bipush 59, 2, 0, 0) := rfl
theorem d_39_44 : mj_cd 39 44 = some (.invokevirtual 48, 3, 35, 0) := rfl
theorem d_39_47 : mj_cd 39 47 = some (.aload_n 0, 1, 0, 0) := rfl
theorem d_39_48 : mj_cd 39 48 = some (.getfield 27, 3, 1, 10) := rfl
theorem d_39_51 : mj_cd 39 51 = some (.iload_n 1, 1, 0, 0) := rfl
theorem d_39_52 : mj_cd 39 52 = some (.aload_n 0, 1, 0, 0) := rfl
theorem d_39_53 : mj_cd 39 53 = some (.getfield 43, 3, 1, 9) := rfl
theorem d_39_56 : mj_cd 39 56 = some (.iastore, 1, 0, 0) := rfl
theorem d_39_57 : mj_cd 39 57 = some (.iinc 1 1, 3, 0, 0) := rfl
theorem d_39_60 : mj_cd 39 60 = some (.goto (-39), 3, 0, 0) := rfl
theorem d_39_63 : mj_cd 39 63 = some (.aload_n 0, 1, 0, 0) := rfl
theorem d_39_64 : mj_cd 39 64 = some (.sipush 302, 3, 0, 0) := rfl
theorem d_39_67 : mj_cd 39 67 = some (.invokevirtual 48, 3, 35, 0) := rfl
theorem d_39_70 : mj_cd 39 70 = some (.aload_n 0, 1, 0, 0) := rfl
theorem d_39_71 : mj_cd 39 71 = some (.iconst 0, 1, 0, 0) := rfl
theorem d_39_72 : mj_cd 39 72 = some (.putfield 30, 3, 1, 1) := rfl
theorem d_39_75 : mj_cd 39 75 = some (.aload_n 0, 1, 0, 0) := rfl
theorem d_39_76 : mj_cd 39 76 = some (.getfield 40, 3, 1, 7) := rfl
theorem d_39_79 : mj_cd 39 79 = some (.ireturn, 1, 0, 0) := rfl
theorem d_40_0 : mj_cd 40 0 = some (.aload_n 1, 1, 0, 0) := rfl
theorem d_40_1 : mj_cd 40 1 = some (.invokevirtual 92, 3, 186, 0) := rfl
theorem d_40_4 : mj_cd 40 4 = some (.iload_n 3, 1, 0, 0) := rfl
theorem d_40_5 : mj_cd 40 5 = some (.iload_n 2, 1, 0, 0) := rfl
theorem d_40_6 : mj_cd 40 6 = some (.isub, 1, 0, 0) := rfl
theorem d_40_7 : mj_cd 40 7 = some (.if_icmp .eq 5, 3, 0, 0) := rfl
theorem d_40_10 : mj_cd 40 10 = some (.iconst 0, 1, 0, 0) := rfl
theorem d_40_11 : mj_cd 40 11 = some (.ireturn, 1, 0, 0) := rfl
theorem d_40_12 : mj_cd 40 12 = some (.iload_n 2, 1, 0, 0) := rfl
theorem d_40_13 : mj_cd 40 13 = some (.istore 4, 2, 0, 0) := rfl
theorem d_40_15 : mj_cd 40 15 = some (.iload 4, 2, 0, 0) := rfl
theorem d_40_17 : mj_cd 40 17 = some (.iload_n 3, 1, 0, 0) := rfl
theorem d_40_18 : mj_cd 40 18 = some (.if_icmp .ge 29, 3, 0, 0) := rfl
theorem d_40_21 : mj_cd 40 21 = some (.aload_n 1, 1, 0, 0) := rfl
theorem d_40_22 : mj_cd 40 22 = some (.iload 4, 2, 0, 0) := rfl
theorem d_40_24 : mj_cd 40 24 = some (.iload_n 2, 1, 0, 0) := rfl
theorem d_40_25 : mj_cd 40 25 = some (.isub, 1, 0, 0) := rfl
theorem d_40_26 : mj_cd 40 26 = some (.invokevirtual 98, 3, 182, 0) := rfl
theorem d_40_29 : mj_cd 40 29 = some (.aload_n 0, 1, 0, 0) := rfl
theorem d_40_30 : mj_cd 40 30 = some (.getfield 9, 3, 1, 0) := rfl
theorem d_40_33 : mj_cd 40 33 = some (.iload 4, 2, 0, 0) := rfl
theorem d_40_35 : mj_cd 40 35 = some (.iaload, 1, 0, 0) := rfl
theorem d_40_36 : mj_cd 40 36 = some (.if_icmp .eq 5, 3, 0, 0) := rfl
theorem d_40_39 : mj_cd 40 39 = some (.iconst 0, 1, 0, 0) := rfl
theorem d_40_40 : mj_cd 40 40 = some (.ireturn, 1, 0, 0) := rfl
theorem d_40_41 : mj_cd 40 41 = some (.iinc 4 1, 3, 0, 0) := rfl
theorem d_40_44 : mj_cd 40 44 = some (.goto (-29), 3, 0, 0) := rfl
theorem d_40_47 : mj_cd 40 47 = some (.iconst 1, 1, 0, 0) := rfl
theorem d_40_48 : mj_cd 40 48 = some (.ireturn, 1, 0, 0) := rfl
theorem d_41_0 : mj_cd 41 0 = some (.aload_n 0, 1, 0, 0) := rfl
theorem d_41_1 : mj_cd 41 1 = some (.getfield 40, 3, 1, 7) := rfl
theorem d_41_4 : mj_cd 41 4 = some (.iconst (-1), 1, 0, 0) := rfl
theorem d_41_5 : mj_cd 41 5 = some (.if_icmp .ne 33, 3, 0, 0) := rfl
theorem d_41_8 : mj_cd 41 8 = some (.aload_n 0, 1, 0, 0) := rfl
theorem d_41_9 : mj_cd 41 9 = some (.getfield 43, 3, 1, 9) := rfl
theorem d_41_12 : mj_cd 41 12 = some (.sipush 160, 3, 0, 0) := rfl
theorem d_41_15 : mj_cd 41 15 = some (.if_icmp .ge 23, 3, 0, 0) := rfl
theorem d_41_18 : mj_cd 41 18 = some (.aload_n 0, 1, 0, 0) := rfl
theorem d_41_19 : mj_cd 41 19 = some (.getfield 24, 3, 1, 8) := rfl
theorem d_41_22 : mj_cd 41 22 = some (.aload_n 0, 1, 0, 0) := rfl
theorem d_41_23 : mj_cd 41 23 = some (.getfield 43, 3, 1, 9) := rfl
theorem d_41_26 : mj_cd 41 26 = some (.iload_n 1, 1, 0, 0) := rfl
theorem d_41_27 : mj_cd 41 27 = some (.iastore, 1, 0, 0) := rfl
theorem d_41_28 : mj_cd 41 28 = some (.aload_n 0, 1, 0, 0) := rfl
theorem d_41_29 : mj_cd 41 29 = some (.dup, 1, 0, 0) := rfl
theorem d_41_30 : mj_cd 41 30 = some (.getfield 43, 3, 1, 9) := rfl
theorem d_41_33 : mj_cd 41 33 = some (.iconst 1, 1, 0, 0) := rfl
theorem d_41_34 : mj_cd 41 34 = some (.iadd, 1, 0, 0) := rfl
theorem d_41_35 : mj_cd 41 35 = some (.putfield 43, 3, 1, 9) := rfl
theorem d_41_38 : mj_cd 41 38 = some (.return_, 1, 0, 0) := rfl
theorem d_42_0 : mj_cd 42 0 = some (.aload_n 0, 1, 0, 0) := rfl
theorem d_42_1 : mj_cd 42 1 = some (.getfield 56, 3, 1, 5) := rfl
theorem d_42_4 : mj_cd 42 4 = some (.aload_n 0, 1, 0, 0) := rfl
theorem d_42_5 : mj_cd 42 5 = some (.getfield 15, 3, 1, 2) := rfl
theorem d_42_8 : mj_cd 42 8 = some (.arraylength, 1, 0, 0) := rfl
theorem d_42_9 : mj_cd 42 9 = some (.if_icmp .ge 43, 3, 0, 0) := rfl
theorem d_42_12 : mj_cd 42 12 = some (.aload_n 0, 1, 0, 0) := rfl
theorem d_42_13 : mj_cd 42 13 = some (.getfield 15, 3, 1, 2) := rfl
theorem d_42_16 : mj_cd 42 16 = some (.aload_n 0, 1, 0, 0) := rfl
theorem d_42_17 : mj_cd 42 17 = some (.getfield 56, 3, 1, 5) := rfl
theorem d_42_20 : mj_cd 42 20 = some (.iload_n 1, 1, 0, 0) := rfl
theorem d_42_21 : mj_cd 42 21 = some (.iastore, 1, 0, 0) := rfl
theorem d_42_22 : mj_cd 42 22 = some (.aload_n 0, 1, 0, 0) := rfl
theorem d_42_23 : mj_cd 42 23 = some (.getfield 18, 3, 1, 3) := rfl
theorem d_42_26 : mj_cd 42 26 = some (.aload_n 0, 1, 0, 0) := rfl
theorem d_42_27 : mj_cd 42 27 = some (.getfield 56, 3, 1, 5) := rfl
theorem d_42_30 : mj_cd 42 30 = some (.iload_n 2, 1, 0, 0) := rfl
theorem d_42_31 : mj_cd 42 31 = some (.iastore, 1, 0, 0) := rfl
theorem d_42_32 : mj_cd 42 32 = some (.aload_n 0, 1, 0, 0) := rfl
theorem d_42_33 : mj_cd 42 33 = some (.getfield 21, 3, 1, 4) := rfl
theorem d_42_36 : mj_cd 42 36 = some (.aload_n 0, 1, 0, 0) := rfl
theorem d_42_37 : mj_cd 42 37 = some (.getfield 56, 3, 1, 5) := rfl
theorem d_42_40 : mj_cd 42 40 = some (.iload_n 3, 1, 0, 0) := rfl
theorem d_42_41 : mj_cd 42 41 = some (.iastore, 1, 0, 0) := rfl
theorem d_42_42 : mj_cd 42 42 = some (.aload_n 0, 1, 0, 0) := rfl
theorem d_42_43 : mj_cd 42 43 = some (.dup, 1, 0, 0) := rfl
theorem d_42_44 : mj_cd 42 44 = some (.getfield 56, 3, 1, 5) := rfl
theorem d_42_47 : mj_cd 42 47 = some (.iconst 1, 1, 0, 0) := rfl
theorem d_42_48 : mj_cd 42 48 = some (.iadd, 1, 0, 0) := rfl
theorem d_42_49 : mj_cd 42 49 = some (.putfield 56, 3, 1, 5) := rfl
theorem d_42_52 : mj_cd 42 52 = some (.return_, 1, 0, 0) := rfl
theorem d_43_0 : mj_cd 43 0 = some (.iconst 0, 1, 0, 0) := rfl
theorem d_43_1 : mj_cd 43 1 = some (.istore_n 3, 1, 0, 0) := rfl
theorem d_43_2 : mj_cd 43 2 = some (.iload_n 3, 1, 0, 0) := rfl
theorem d_43_3 : mj_cd 43 3 = some (.bipush 12, 2, 0, 0) := rfl
theorem d_43_5 : mj_cd 43 5 = some (.if_icmp .ge 24, 3, 0, 0) := rfl
theorem d_43_8 : mj_cd 43 8 = some (.aload_n 0, 1, 0, 0) := rfl
theorem d_43_9 : mj_cd 43 9 = some (.iload_n 3, 1, 0, 0) := rfl
theorem d_43_10 : mj_cd 43 10 = some (.invokestatic 84, 3, 49, 0) := rfl
theorem d_43_13 : mj_cd 43 13 = some (.iload_n 1, 1, 0, 0) := rfl
theorem d_43_14 : mj_cd 43 14 = some (.iload_n 2, 1, 0, 0) := rfl
theorem d_43_15 : mj_cd 43 15 = some (.invokevirtual 88, 3, 40, 0) := rfl
theorem d_43_18 : mj_cd 43 18 = some (.ifCond .eq 5, 3, 0, 0) := rfl
theorem d_43_21 : mj_cd 43 21 = some (.iload_n 3, 1, 0, 0) := rfl
theorem d_43_22 : mj_cd 43 22 = some (.ireturn, 1, 0, 0) := rfl
theorem d_43_23 : mj_cd 43 23 = some (.iinc 3 1, 3, 0, 0) := rfl
theorem d_43_26 : mj_cd 43 26 = some (.goto (-24), 3, 0, 0) := rfl
theorem d_43_29 : mj_cd 43 29 = some (.iconst (-1), 1, 0, 0) := rfl
theorem d_43_30 : mj_cd 43 30 = some (.ireturn, 1, 0, 0) := rfl
theorem d_48_0 : mj_cd 48 0 = some (.iload_n 0, 1, 0, 0) := rfl
theorem d_48_1 : mj_cd 48 1 = some (.bipush 40, 2, 0, 0) := rfl
theorem d_48_3 : mj_cd 48 3 = some (.if_icmp .eq 45, 3, 0, 0) := rfl
theorem d_48_6 : mj_cd 48 6 = some (.iload_n 0, 1, 0, 0) := rfl
theorem d_48_7 : mj_cd 48 7 = some (.bipush 41, 2, 0, 0) := rfl
theorem d_48_9 : mj_cd 48 9 = some (.if_icmp .eq 39, 3, 0, 0) := rfl
theorem d_48_12 : mj_cd 48 12 = some (.iload_n 0, 1, 0, 0) := rfl
theorem d_48_13 : mj_cd 48 13 = some (.bipush 59, 2, 0, 0) := rfl
theorem d_48_15 : mj_cd 48 15 = some (.if_icmp .eq 33, 3, 0, 0) := rfl
theorem d_48_18 : mj_cd 48 18 = some (.iload_n 0, 1, 0, 0) := rfl
theorem d_48_19 : mj_cd 48 19 = some (.bipush 43, 2, 0, 0) := rfl
theorem d_48_21 : mj_cd 48 21 = some (.if_icmp .eq 27, 3, 0, 0) := rfl
theorem d_48_24 : mj_cd 48 24 = some (.iload_n 0, 1, 0, 0) := rfl
theorem d_48_25 : mj_cd 48 25 = some (.bipush 45, 2, 0, 0) := rfl
theorem d_48_27 : mj_cd 48 27 = some (.if_icmp .eq 21, 3, 0, 0) := rfl
theorem d_48_30 : mj_cd 48 30 = some (.iload_n 0, 1, 0, 0) := rfl
theorem d_48_31 : mj_cd 48 31 = some (.bipush 42, 2, 0, 0) := rfl
theorem d_48_33 : mj_cd 48 33 = some (.if_icmp .eq 15, 3, 0, 0) := rfl
theorem d_48_36 : mj_cd 48 36 = some (.iload_n 0, 1, 0, 0) := rfl
theorem d_48_37 : mj_cd 48 37 = some (.bipush 60, 2, 0, 0) := rfl
theorem d_48_39 : mj_cd 48 39 = some (.if_icmp .eq 9, 3, 0, 0) := rfl
theorem d_48_42 : mj_cd 48 42 = some (.iload_n 0, 1, 0, 0) := rfl
theorem d_48_43 : mj_cd 48 43 = some (.bipush 61, 2, 0, 0) := rfl
theorem d_48_45 : mj_cd 48 45 = some (.if_icmp .ne 7, 3, 0, 0) := rfl
theorem d_48_48 : mj_cd 48 48 = some (.iconst 1, 1, 0, 0) := rfl
theorem d_48_49 : mj_cd 48 49 = some (.goto 4, 3, 0, 0) := rfl
theorem d_48_52 : mj_cd 48 52 = some (.iconst 0, 1, 0, 0) := rfl
theorem d_48_53 : mj_cd 48 53 = some (.ireturn, 1, 0, 0) := rfl
theorem d_49_0 : mj_cd 49 0 = some (.iload_n 0, 1, 0, 0) := rfl
theorem d_49_1 : mj_cd 49 1 = some (.tableswitch 92 0 10 #[59, 62, 65, 68, 71, 74, 77, 80, 83, 86, 89], 59, 0, 0) := rfl
theorem d_49_60 : mj_cd 49 60 = some (.ldc 9, 2, 28, 2) := rfl
theorem d_49_62 : mj_cd 49 62 = some (.areturn, 1, 0, 0) := rfl
theorem d_49_63 : mj_cd 49 63 = some (.ldc 11, 2, 29, 2) := rfl
theorem d_49_65 : mj_cd 49 65 = some (.areturn, 1, 0, 0) := rfl
theorem d_49_66 : mj_cd 49 66 = some (.ldc 13, 2, 30, 2) := rfl
theorem d_49_68 : mj_cd 49 68 = some (.areturn, 1, 0, 0) := rfl
theorem d_49_69 : mj_cd 49 69 = some (.ldc 15, 2, 31, 2) := rfl
theorem d_49_71 : mj_cd 49 71 = some (.areturn, 1, 0, 0) := rfl
theorem d_49_72 : mj_cd 49 72 = some (.ldc 17, 2, 32, 2) := rfl
theorem d_49_74 : mj_cd 49 74 = some (.areturn, 1, 0, 0) := rfl
theorem d_49_75 : mj_cd 49 75 = some (.ldc 19, 2, 33, 2) := rfl
theorem d_49_77 : mj_cd 49 77 = some (.areturn, 1, 0, 0) := rfl
theorem d_49_78 : mj_cd 49 78 = some (.ldc 21, 2, 34, 2) := rfl
theorem d_49_80 : mj_cd 49 80 = some (.areturn, 1, 0, 0) := rfl
theorem d_49_81 : mj_cd 49 81 = some (.ldc 23, 2, 35, 2) := rfl
theorem d_49_83 : mj_cd 49 83 = some (.areturn, 1, 0, 0) := rfl
theorem d_49_84 : mj_cd 49 84 = some (.ldc 25, 2, 36, 2) := rfl
theorem d_49_86 : mj_cd 49 86 = some (.areturn, 1, 0, 0) := rfl
theorem d_49_87 : mj_cd 49 87 = some (.ldc 27, 2, 37, 2) := rfl
theorem d_49_89 : mj_cd 49 89 = some (.areturn, 1, 0, 0) := rfl
theorem d_49_90 : mj_cd 49 90 = some (.ldc 29, 2, 38, 2) := rfl
theorem d_49_92 : mj_cd 49 92 = some (.areturn, 1, 0, 0) := rfl
theorem d_49_93 : mj_cd 49 93 = some (.ldc 31, 2, 39, 2) := rfl
theorem d_49_95 : mj_cd 49 95 = some (.areturn, 1, 0, 0) := rfl
theorem d_50_0 : mj_cd 50 0 = some (.aload_n 0, 1, 0, 0) := rfl
theorem d_50_1 : mj_cd 50 1 = some (.getfield 26, 3, 3, 4) := rfl
theorem d_50_4 : mj_cd 50 4 = some (.bipush 6, 2, 0, 0) := rfl
theorem d_50_6 : mj_cd 50 6 = some (.if_icmp .lt 6, 3, 0, 0) := rfl
theorem d_50_9 : mj_cd 50 9 = some (.bipush (-4), 2, 0, 0) := rfl
theorem d_50_11 : mj_cd 50 11 = some (.ireturn, 1, 0, 0) := rfl
theorem d_50_12 : mj_cd 50 12 = some (.aload_n 1, 1, 0, 0) := rfl
theorem d_50_13 : mj_cd 50 13 = some (.getfield 30, 3, 1, 8) := rfl
theorem d_50_16 : mj_cd 50 16 = some (.iconst 0, 1, 0, 0) := rfl
theorem d_50_17 : mj_cd 50 17 = some (.aload_n 0, 1, 0, 0) := rfl
theorem d_50_18 : mj_cd 50 18 = some (.getfield 11, 3, 3, 0) := rfl
theorem d_50_21 : mj_cd 50 21 = some (.aload_n 0, 1, 0, 0) := rfl
theorem d_50_22 : mj_cd 50 22 = some (.getfield 26, 3, 3, 4) := rfl
theorem d_50_25 : mj_cd 50 25 = some (.aaload, 1, 0, 0) := rfl
theorem d_50_26 : mj_cd 50 26 = some (.iconst 0, 1, 0, 0) := rfl
theorem d_50_27 : mj_cd 50 27 = some (.sipush 160, 3, 0, 0) := rfl
theorem d_50_30 : mj_cd 50 30 = some (.invokestatic 34, 3, 1001, 0) := rfl
theorem d_50_33 : mj_cd 50 33 = some (.aload_n 1, 1, 0, 0) := rfl
theorem d_50_34 : mj_cd 50 34 = some (.getfield 40, 3, 1, 10) := rfl
theorem d_50_37 : mj_cd 50 37 = some (.iconst 0, 1, 0, 0) := rfl
theorem d_50_38 : mj_cd 50 38 = some (.aload_n 0, 1, 0, 0) := rfl
theorem d_50_39 : mj_cd 50 39 = some (.getfield 16, 3, 3, 1) := rfl
theorem d_50_42 : mj_cd 50 42 = some (.aload_n 0, 1, 0, 0) := rfl
theorem d_50_43 : mj_cd 50 43 = some (.getfield 26, 3, 3, 4) := rfl
theorem d_50_46 : mj_cd 50 46 = some (.aaload, 1, 0, 0) := rfl
theorem d_50_47 : mj_cd 50 47 = some (.iconst 0, 1, 0, 0) := rfl
theorem d_50_48 : mj_cd 50 48 = some (.iconst 3, 1, 0, 0) := rfl
theorem d_50_49 : mj_cd 50 49 = some (.invokestatic 34, 3, 1001, 0) := rfl
theorem d_50_52 : mj_cd 50 52 = some (.aload_n 0, 1, 0, 0) := rfl
theorem d_50_53 : mj_cd 50 53 = some (.dup, 1, 0, 0) := rfl
theorem d_50_54 : mj_cd 50 54 = some (.getfield 26, 3, 3, 4) := rfl
theorem d_50_57 : mj_cd 50 57 = some (.iconst 1, 1, 0, 0) := rfl
theorem d_50_58 : mj_cd 50 58 = some (.iadd, 1, 0, 0) := rfl
theorem d_50_59 : mj_cd 50 59 = some (.putfield 26, 3, 3, 4) := rfl
theorem d_50_62 : mj_cd 50 62 = some (.aload_n 0, 1, 0, 0) := rfl
theorem d_50_63 : mj_cd 50 63 = some (.getfield 26, 3, 3, 4) := rfl
theorem d_50_66 : mj_cd 50 66 = some (.iconst 1, 1, 0, 0) := rfl
theorem d_50_67 : mj_cd 50 67 = some (.isub, 1, 0, 0) := rfl
theorem d_50_68 : mj_cd 50 68 = some (.ireturn, 1, 0, 0) := rfl
theorem d_72_0 : mj_cd 72 0 = some (.iload_n 1, 1, 0, 0) := rfl
theorem d_72_1 : mj_cd 72 1 = some (.ifCond .lt 10, 3, 0, 0) := rfl
theorem d_72_4 : mj_cd 72 4 = some (.iload_n 1, 1, 0, 0) := rfl
theorem d_72_5 : mj_cd 72 5 = some (.sipush 255, 3, 0, 0) := rfl
theorem d_72_8 : mj_cd 72 8 = some (.if_icmp .le 6, 3, 0, 0) := rfl
theorem d_72_11 : mj_cd 72 11 = some (.bipush (-2), 2, 0, 0) := rfl
theorem d_72_13 : mj_cd 72 13 = some (.ireturn, 1, 0, 0) := rfl
theorem d_72_14 : mj_cd 72 14 = some (.aload_n 0, 1, 0, 0) := rfl
theorem d_72_15 : mj_cd 72 15 = some (.getfield 19, 3, 5, 1) := rfl
theorem d_72_18 : mj_cd 72 18 = some (.iload_n 1, 1, 0, 0) := rfl
theorem d_72_19 : mj_cd 72 19 = some (.invokevirtual 64, 3, 25, 0) := rfl
theorem d_72_22 : mj_cd 72 22 = some (.ireturn, 1, 0, 0) := rfl
theorem d_100_0 : mj_cd 100 0 = some (.aload_n 0, 1, 0, 0) := rfl
theorem d_100_1 : mj_cd 100 1 = some (.getfield 10, 3, 5, 0) := rfl
theorem d_100_4 : mj_cd 100 4 = some (.getfield 152, 3, 3, 4) := rfl
theorem d_100_7 : mj_cd 100 7 = some (.bipush 6, 2, 0, 0) := rfl
theorem d_100_9 : mj_cd 100 9 = some (.if_icmp .lt 6, 3, 0, 0) := rfl
theorem d_100_12 : mj_cd 100 12 = some (.bipush (-4), 2, 0, 0) := rfl
theorem d_100_14 : mj_cd 100 14 = some (.ireturn, 1, 0, 0) := rfl
theorem d_100_15 : mj_cd 100 15 = some (.aload_n 0, 1, 0, 0) := rfl
theorem d_100_16 : mj_cd 100 16 = some (.getfield 19, 3, 5, 1) := rfl
theorem d_100_19 : mj_cd 100 19 = some (.invokevirtual 68, 3, 39, 0) := rfl
theorem d_100_22 : mj_cd 100 22 = some (.istore_n 1, 1, 0, 0) := rfl
theorem d_100_23 : mj_cd 100 23 = some (.iload_n 1, 1, 0, 0) := rfl
theorem d_100_24 : mj_cd 100 24 = some (.iconst (-1), 1, 0, 0) := rfl
theorem d_100_25 : mj_cd 100 25 = some (.if_icmp .ne 17, 3, 0, 0) := rfl
theorem d_100_28 : mj_cd 100 28 = some (.aload_n 0, 1, 0, 0) := rfl
theorem d_100_29 : mj_cd 100 29 = some (.getfield 10, 3, 5, 0) := rfl
theorem d_100_32 : mj_cd 100 32 = some (.aload_n 0, 1, 0, 0) := rfl
theorem d_100_33 : mj_cd 100 33 = some (.getfield 19, 3, 5, 1) := rfl
theorem d_100_36 : mj_cd 100 36 = some (.invokevirtual 71, 3, 50, 0) := rfl
theorem d_100_39 : mj_cd 100 39 = some (.goto 7, 3, 0, 0) := rfl
theorem d_100_42 : mj_cd 100 42 = some (.bipush (-100), 2, 0, 0) := rfl
theorem d_100_44 : mj_cd 100 44 = some (.iload_n 1, 1, 0, 0) := rfl
theorem d_100_45 : mj_cd 100 45 = some (.isub, 1, 0, 0) := rfl
theorem d_100_46 : mj_cd 100 46 = some (.ireturn, 1, 0, 0) := rfl
theorem d_105_0 : mj_cd 105 0 = some (.aload_n 0, 1, 0, 0) := rfl
theorem d_105_1 : mj_cd 105 1 = some (.invokevirtual 255, 3, 172, 0) := rfl
theorem d_105_4 : mj_cd 105 4 = some (.istore_n 1, 1, 0, 0) := rfl
theorem d_105_5 : mj_cd 105 5 = some (.aload_n 0, 1, 0, 0) := rfl
theorem d_105_6 : mj_cd 105 6 = some (.bipush 43, 2, 0, 0) := rfl
theorem d_105_8 : mj_cd 105 8 = some (.invokevirtual 238, 3, 140, 0) := rfl
theorem d_105_11 : mj_cd 105 11 = some (.ifCond .ne 12, 3, 0, 0) := rfl
theorem d_105_14 : mj_cd 105 14 = some (.aload_n 0, 1, 0, 0) := rfl
theorem d_105_15 : mj_cd 105 15 = some (.bipush 45, 2, 0, 0) := rfl
theorem d_105_17 : mj_cd 105 17 = some (.invokevirtual 238, 3, 140, 0) := rfl
theorem d_105_20 : mj_cd 105 20 = some (.ifCond .eq 46, 3, 0, 0) := rfl
theorem d_105_23 : mj_cd 105 23 = some (.aload_n 0, 1, 0, 0) := rfl
theorem d_105_24 : mj_cd 105 24 = some (.getfield 193, 3, 6, 26) := rfl
theorem d_105_27 : mj_cd 105 27 = some (.ldc2_w 258, 3, 18, 1) := rfl
theorem d_105_30 : mj_cd 105 30 = some (.lcmp, 1, 0, 0) := rfl
theorem d_105_31 : mj_cd 105 31 = some (.ifCond .ne 7, 3, 0, 0) := rfl
theorem d_105_34 : mj_cd 105 34 = some (.iconst 1, 1, 0, 0) := rfl
theorem d_105_35 : mj_cd 105 35 = some (.goto 4, 3, 0, 0) := rfl
theorem d_105_38 : mj_cd 105 38 = some (.iconst 0, 1, 0, 0) := rfl
theorem d_105_39 : mj_cd 105 39 = some (.istore_n 2, 1, 0, 0) := rfl
theorem d_105_40 : mj_cd 105 40 = some (.aload_n 0, 1, 0, 0) := rfl
theorem d_105_41 : mj_cd 105 41 = some (.invokevirtual 213, 3, 154, 0) := rfl
theorem d_105_44 : mj_cd 105 44 = some (.aload_n 0, 1, 0, 0) := rfl
theorem d_105_45 : mj_cd 105 45 = some (.invokevirtual 255, 3, 172, 0) := rfl
theorem d_105_48 : mj_cd 105 48 = some (.istore_n 3, 1, 0, 0) := rfl
theorem d_105_49 : mj_cd 105 49 = some (.iload_n 2, 1, 0, 0) := rfl
theorem d_105_50 : mj_cd 105 50 = some (.ifCond .eq 9, 3, 0, 0) := rfl
theorem d_105_53 : mj_cd 105 53 = some (.iload_n 1, 1, 0, 0) := rfl
theorem d_105_54 : mj_cd 105 54 = some (.iload_n 3, 1, 0, 0) := rfl
theorem d_105_55 : mj_cd 105 55 = some (.iadd, 1, 0, 0) := rfl
theorem d_105_56 : mj_cd 105 56 = some (.goto 6, 3, 0, 0) := rfl
theorem d_105_59 : mj_cd 105 59 = some (.iload_n 1, 1, 0, 0) := rfl
theorem d_105_60 : mj_cd 105 60 = some (.iload_n 3, 1, 0, 0) := rfl
theorem d_105_61 : mj_cd 105 61 = some (.isub, 1, 0, 0) := rfl
theorem d_105_62 : mj_cd 105 62 = some (.istore_n 1, 1, 0, 0) := rfl
theorem d_105_63 : mj_cd 105 63 = some (.goto (-58), 3, 0, 0) := rfl
theorem d_105_66 : mj_cd 105 66 = some (.iload_n 1, 1, 0, 0) := rfl
theorem d_105_67 : mj_cd 105 67 = some (.ireturn, 1, 0, 0) := rfl
theorem d_107_0 : mj_cd 107 0 = some (.iconst 0, 1, 0, 0) := rfl
theorem d_107_1 : mj_cd 107 1 = some (.istore_n 1, 1, 0, 0) := rfl
theorem d_107_2 : mj_cd 107 2 = some (.aload_n 0, 1, 0, 0) := rfl
theorem d_107_3 : mj_cd 107 3 = some (.bipush 45, 2, 0, 0) := rfl
theorem d_107_5 : mj_cd 107 5 = some (.invokevirtual 238, 3, 140, 0) := rfl
theorem d_107_8 : mj_cd 107 8 = some (.ifCond .eq 29, 3, 0, 0) := rfl
theorem d_107_11 : mj_cd 107 11 = some (.aload_n 0, 1, 0, 0) := rfl
theorem d_107_12 : mj_cd 107 12 = some (.invokevirtual 241, 3, 158, 0) := rfl
theorem d_107_15 : mj_cd 107 15 = some (.ifCond .eq 146, 3, 0, 0) := rfl
theorem d_107_18 : mj_cd 107 18 = some (.aload_n 0, 1, 0, 0) := rfl
theorem d_107_19 : mj_cd 107 19 = some (.invokevirtual 245, 3, 107, 0) := rfl
theorem d_107_22 : mj_cd 107 22 = some (.ineg, 1, 0, 0) := rfl
theorem d_107_23 : mj_cd 107 23 = some (.istore_n 1, 1, 0, 0) := rfl
theorem d_107_24 : mj_cd 107 24 = some (.aload_n 0, 1, 0, 0) := rfl
theorem d_107_25 : mj_cd 107 25 = some (.dup, 1, 0, 0) := rfl
theorem d_107_26 : mj_cd 107 26 = some (.getfield 207, 3, 6, 27) := rfl
theorem d_107_29 : mj_cd 107 29 = some (.iconst 1, 1, 0, 0) := rfl
theorem d_107_30 : mj_cd 107 30 = some (.isub, 1, 0, 0) := rfl
theorem d_107_31 : mj_cd 107 31 = some (.putfield 207, 3, 6, 27) := rfl
theorem d_107_34 : mj_cd 107 34 = some (.goto 127, 3, 0, 0) := rfl
theorem d_107_37 : mj_cd 107 37 = some (.aload_n 0, 1, 0, 0) := rfl
theorem d_107_38 : mj_cd 107 38 = some (.bipush 40, 2, 0, 0) := rfl
theorem d_107_40 : mj_cd 107 40 = some (.invokevirtual 238, 3, 140, 0) := rfl
theorem d_107_43 : mj_cd 107 43 = some (.ifCond .eq 52, 3, 0, 0) := rfl
theorem d_107_46 : mj_cd 107 46 = some (.aload_n 0, 1, 0, 0) := rfl
theorem d_107_47 : mj_cd 107 47 = some (.invokevirtual 241, 3, 158, 0) := rfl
theorem d_107_50 : mj_cd 107 50 = some (.ifCond .eq 111, 3, 0, 0) := rfl
theorem d_107_53 : mj_cd 107 53 = some (.aload_n 0, 1, 0, 0) := rfl
theorem d_107_54 : mj_cd 107 54 = some (.invokevirtual 249, 3, 123, 0) := rfl
theorem d_107_57 : mj_cd 107 57 = some (.istore_n 1, 1, 0, 0) := rfl
theorem d_107_58 : mj_cd 107 58 = some (.aload_n 0, 1, 0, 0) := rfl
theorem d_107_59 : mj_cd 107 59 = some (.bipush 41, 2, 0, 0) := rfl
theorem d_107_61 : mj_cd 107 61 = some (.invokevirtual 238, 3, 140, 0) := rfl
theorem d_107_64 : mj_cd 107 64 = some (.ifCond .ne 7, 3, 0, 0) := rfl
theorem d_107_67 : mj_cd 107 67 = some (.aload_n 0, 1, 0, 0) := rfl
theorem d_107_68 : mj_cd 107 68 = some (.invokevirtual 210, 3, 125, 0) := rfl
theorem d_107_71 : mj_cd 107 71 = some (.aload_n 0, 1, 0, 0) := rfl
theorem d_107_72 : mj_cd 107 72 = some (.dup, 1, 0, 0) := rfl
theorem d_107_73 : mj_cd 107 73 = some (.getfield 207, 3, 6, 27) := rfl
theorem d_107_76 : mj_cd 107 76 = some (.iconst 1, 1, 0, 0) := rfl
theorem d_107_77 : mj_cd 107 77 = some (.isub, 1, 0, 0) := rfl
theorem d_107_78 : mj_cd 107 78 = some (.putfield 207, 3, 6, 27) := rfl
theorem d_107_81 : mj_cd 107 81 = some (.aload_n 0, 1, 0, 0) := rfl
theorem d_107_82 : mj_cd 107 82 = some (.getfield 197, 3, 6, 28) := rfl
theorem d_107_85 : mj_cd 107 85 = some (.ifCond .ne 76, 3, 0, 0) := rfl
theorem d_107_88 : mj_cd 107 88 = some (.aload_n 0, 1, 0, 0) := rfl
theorem d_107_89 : mj_cd 107 89 = some (.invokevirtual 213, 3, 154, 0) := rfl
theorem d_107_92 : mj_cd 107 92 = some (.goto 69, 3, 0, 0) := rfl
theorem d_107_95 : mj_cd 107 95 = some (.aload_n 0, 1, 0, 0) := rfl
theorem d_107_96 : mj_cd 107 96 = some (.getfield 197, 3, 6, 28) := rfl
theorem d_107_99 : mj_cd 107 99 = some (.ifCond .ne 24, 3, 0, 0) := rfl
theorem d_107_102 : mj_cd 107 102 = some (.aload_n 0, 1, 0, 0) := rfl
theorem d_107_103 : mj_cd 107 103 = some (.getfield 182, 3, 6, 24) := rfl
theorem d_107_106 : mj_cd 107 106 = some (.iconst 2, 1, 0, 0) := rfl
theorem d_107_107 : mj_cd 107 107 = some (.if_icmp .ne 16, 3, 0, 0) := rfl
theorem d_107_110 : mj_cd 107 110 = some (.aload_n 0, 1, 0, 0) := rfl
theorem d_107_111 : mj_cd 107 111 = some (.getfield 193, 3, 6, 26) := rfl
theorem d_107_114 : mj_cd 107 114 = some (.l2i, 1, 0, 0) := rfl
theorem d_107_115 : mj_cd 107 115 = some (.istore_n 1, 1, 0, 0) := rfl
theorem d_107_116 : mj_cd 107 116 = some (.aload_n 0, 1, 0, 0) := rfl
theorem d_107_117 : mj_cd 107 117 = some (.invokevirtual 213, 3, 154, 0) := rfl
theorem d_107_120 : mj_cd 107 120 = some (.goto 41, 3, 0, 0) := rfl
theorem d_107_123 : mj_cd 107 123 = some (.aload_n 0, 1, 0, 0) := rfl
theorem d_107_124 : mj_cd 107 124 = some (.getfield 197, 3, 6, 28) := rfl
theorem d_107_127 : mj_cd 107 127 = some (.ifCond .ne 30, 3, 0, 0) := rfl
theorem d_107_130 : mj_cd 107 130 = some (.aload_n 0, 1, 0, 0) := rfl
theorem d_107_131 : mj_cd 107 131 = some (.getfield 182, 3, 6, 24) := rfl
theorem d_107_134 : mj_cd 107 134 = some (.iconst 1, 1, 0, 0) := rfl
theorem d_107_135 : mj_cd 107 135 = some (.if_icmp .ne 22, 3, 0, 0) := rfl
theorem d_107_138 : mj_cd 107 138 = some (.aload_n 0, 1, 0, 0) := rfl
theorem d_107_139 : mj_cd 107 139 = some (.invokevirtual 252, 3, 152, 0) := rfl
theorem d_107_142 : mj_cd 107 142 = some (.istore_n 1, 1, 0, 0) := rfl
theorem d_107_143 : mj_cd 107 143 = some (.aload_n 0, 1, 0, 0) := rfl
theorem d_107_144 : mj_cd 107 144 = some (.getfield 197, 3, 6, 28) := rfl
theorem d_107_147 : mj_cd 107 147 = some (.ifCond .ne 14, 3, 0, 0) := rfl
theorem d_107_150 : mj_cd 107 150 = some (.aload_n 0, 1, 0, 0) := rfl
theorem d_107_151 : mj_cd 107 151 = some (.invokevirtual 213, 3, 154, 0) := rfl
theorem d_107_154 : mj_cd 107 154 = some (.goto 7, 3, 0, 0) := rfl
theorem d_107_157 : mj_cd 107 157 = some (.aload_n 0, 1, 0, 0) := rfl
theorem d_107_158 : mj_cd 107 158 = some (.invokevirtual 210, 3, 125, 0) := rfl
theorem d_107_161 : mj_cd 107 161 = some (.iload_n 1, 1, 0, 0) := rfl
theorem d_107_162 : mj_cd 107 162 = some (.ireturn, 1, 0, 0) := rfl
theorem d_112_0 : mj_cd 112 0 = some (.aload_n 0, 1, 0, 0) := rfl
theorem d_112_1 : mj_cd 112 1 = some (.invokevirtual 260, 3, 156, 0) := rfl
theorem d_112_4 : mj_cd 112 4 = some (.istore_n 1, 1, 0, 0) := rfl
theorem d_112_5 : mj_cd 112 5 = some (.aload_n 0, 1, 0, 0) := rfl
theorem d_112_6 : mj_cd 112 6 = some (.bipush 97, 2, 0, 0) := rfl
theorem d_112_8 : mj_cd 112 8 = some (.bipush 110, 2, 0, 0) := rfl
theorem d_112_10 : mj_cd 112 10 = some (.bipush 100, 2, 0, 0) := rfl
theorem d_112_12 : mj_cd 112 12 = some (.iconst 0, 1, 0, 0) := rfl
theorem d_112_13 : mj_cd 112 13 = some (.iconst 0, 1, 0, 0) := rfl
theorem d_112_14 : mj_cd 112 14 = some (.iconst 0, 1, 0, 0) := rfl
theorem d_112_15 : mj_cd 112 15 = some (.iconst 0, 1, 0, 0) := rfl
theorem d_112_16 : mj_cd 112 16 = some (.iconst 0, 1, 0, 0) := rfl
theorem d_112_17 : mj_cd 112 17 = some (.invokevirtual 216, 3, 142, 0) := rfl
theorem d_112_20 : mj_cd 112 20 = some (.ifCond .eq 29, 3, 0, 0) := rfl
theorem d_112_23 : mj_cd 112 23 = some (.aload_n 0, 1, 0, 0) := rfl
theorem d_112_24 : mj_cd 112 24 = some (.invokevirtual 213, 3, 154, 0) := rfl
theorem d_112_27 : mj_cd 112 27 = some (.aload_n 0, 1, 0, 0) := rfl
theorem d_112_28 : mj_cd 112 28 = some (.invokevirtual 260, 3, 156, 0) := rfl
theorem d_112_31 : mj_cd 112 31 = some (.istore_n 2, 1, 0, 0) := rfl
theorem d_112_32 : mj_cd 112 32 = some (.iload_n 1, 1, 0, 0) := rfl
theorem d_112_33 : mj_cd 112 33 = some (.ifCond .eq 11, 3, 0, 0) := rfl
theorem d_112_36 : mj_cd 112 36 = some (.iload_n 2, 1, 0, 0) := rfl
theorem d_112_37 : mj_cd 112 37 = some (.ifCond .eq 7, 3, 0, 0) := rfl
theorem d_112_40 : mj_cd 112 40 = some (.iconst 1, 1, 0, 0) := rfl
theorem d_112_41 : mj_cd 112 41 = some (.goto 4, 3, 0, 0) := rfl
theorem d_112_44 : mj_cd 112 44 = some (.iconst 0, 1, 0, 0) := rfl
theorem d_112_45 : mj_cd 112 45 = some (.istore_n 1, 1, 0, 0) := rfl
theorem d_112_46 : mj_cd 112 46 = some (.goto (-41), 3, 0, 0) := rfl
theorem d_112_49 : mj_cd 112 49 = some (.iload_n 1, 1, 0, 0) := rfl
theorem d_112_50 : mj_cd 112 50 = some (.ireturn, 1, 0, 0) := rfl
theorem d_113_0 : mj_cd 113 0 = some (.iload_n 1, 1, 0, 0) := rfl
theorem d_113_1 : mj_cd 113 1 = some (.aload_n 0, 1, 0, 0) := rfl
theorem d_113_2 : mj_cd 113 2 = some (.getfield 167, 3, 6, 22) := rfl
theorem d_113_5 : mj_cd 113 5 = some (.if_icmp .ge 17, 3, 0, 0) := rfl
theorem d_113_8 : mj_cd 113 8 = some (.aload_n 0, 1, 0, 0) := rfl
theorem d_113_9 : mj_cd 113 9 = some (.getfield 13, 3, 6, 1) := rfl
theorem d_113_12 : mj_cd 113 12 = some (.aload_n 0, 1, 0, 0) := rfl
theorem d_113_13 : mj_cd 113 13 = some (.getfield 170, 3, 6, 21) := rfl
theorem d_113_16 : mj_cd 113 16 = some (.iload_n 1, 1, 0, 0) := rfl
theorem d_113_17 : mj_cd 113 17 = some (.iadd, 1, 0, 0) := rfl
theorem d_113_18 : mj_cd 113 18 = some (.iaload, 1, 0, 0) := rfl
theorem d_113_19 : mj_cd 113 19 = some (.goto 4, 3, 0, 0) := rfl
theorem d_113_22 : mj_cd 113 22 = some (.iconst (-1), 1, 0, 0) := rfl
theorem d_113_23 : mj_cd 113 23 = some (.ireturn, 1, 0, 0) := rfl
theorem d_123_0 : mj_cd 123 0 = some (.aload_n 0, 1, 0, 0) := rfl
theorem d_123_1 : mj_cd 123 1 = some (.invokevirtual 268, 3, 112, 0) := rfl
theorem d_123_4 : mj_cd 123 4 = some (.istore_n 1, 1, 0, 0) := rfl
theorem d_123_5 : mj_cd 123 5 = some (.aload_n 0, 1, 0, 0) := rfl
theorem d_123_6 : mj_cd 123 6 = some (.bipush 111, 2, 0, 0) := rfl
theorem d_123_8 : mj_cd 123 8 = some (.bipush 114, 2, 0, 0) := rfl
theorem d_123_10 : mj_cd 123 10 = some (.iconst 0, 1, 0, 0) := rfl
theorem d_123_11 : mj_cd 123 11 = some (.iconst 0, 1, 0, 0) := rfl
theorem d_123_12 : mj_cd 123 12 = some (.iconst 0, 1, 0, 0) := rfl
theorem d_123_13 : mj_cd 123 13 = some (.iconst 0, 1, 0, 0) := rfl
theorem d_123_14 : mj_cd 123 14 = some (.iconst 0, 1, 0, 0) := rfl
theorem d_123_15 : mj_cd 123 15 = some (.iconst 0, 1, 0, 0) := rfl
theorem d_123_16 : mj_cd 123 16 = some (.invokevirtual 216, 3, 142, 0) := rfl
theorem d_123_19 : mj_cd 123 19 = some (.ifCond .eq 29, 3, 0, 0) := rfl
theorem d_123_22 : mj_cd 123 22 = some (.aload_n 0, 1, 0, 0) := rfl
theorem d_123_23 : mj_cd 123 23 = some (.invokevirtual 213, 3, 154, 0) := rfl
theorem d_123_26 : mj_cd 123 26 = some (.aload_n 0, 1, 0, 0) := rfl
theorem d_123_27 : mj_cd 123 27 = some (.invokevirtual 268, 3, 112, 0) := rfl
theorem d_123_30 : mj_cd 123 30 = some (.istore_n 2, 1, 0, 0) := rfl
theorem d_123_31 : mj_cd 123 31 = some (.iload_n 1, 1, 0, 0) := rfl
theorem d_123_32 : mj_cd 123 32 = some (.ifCond .ne 7, 3, 0, 0) := rfl
theorem d_123_35 : mj_cd 123 35 = some (.iload_n 2, 1, 0, 0) := rfl
theorem d_123_36 : mj_cd 123 36 = some (.ifCond .eq 7, 3, 0, 0) := rfl
theorem d_123_39 : mj_cd 123 39 = some (.iconst 1, 1, 0, 0) := rfl
theorem d_123_40 : mj_cd 123 40 = some (.goto 4, 3, 0, 0) := rfl
theorem d_123_43 : mj_cd 123 43 = some (.iconst 0, 1, 0, 0) := rfl
theorem d_123_44 : mj_cd 123 44 = some (.istore_n 1, 1, 0, 0) := rfl
theorem d_123_45 : mj_cd 123 45 = some (.goto (-40), 3, 0, 0) := rfl
theorem d_123_48 : mj_cd 123 48 = some (.iload_n 1, 1, 0, 0) := rfl
theorem d_123_49 : mj_cd 123 49 = some (.ireturn, 1, 0, 0) := rfl
theorem d_125_0 : mj_cd 125 0 = some (.aload_n 0, 1, 0, 0) := rfl
theorem d_125_1 : mj_cd 125 1 = some (.getfield 197, 3, 6, 28) := rfl
theorem d_125_4 : mj_cd 125 4 = some (.ifCond .ne 16, 3, 0, 0) := rfl
theorem d_125_7 : mj_cd 125 7 = some (.aload_n 0, 1, 0, 0) := rfl
theorem d_125_8 : mj_cd 125 8 = some (.iconst 1, 1, 0, 0) := rfl
theorem d_125_9 : mj_cd 125 9 = some (.putfield 197, 3, 6, 28) := rfl
theorem d_125_12 : mj_cd 125 12 = some (.aload_n 0, 1, 0, 0) := rfl
theorem d_125_13 : mj_cd 125 13 = some (.aload_n 0, 1, 0, 0) := rfl
theorem d_125_14 : mj_cd 125 14 = some (.getfield 179, 3, 6, 25) := rfl
theorem d_125_17 : mj_cd 125 17 = some (.putfield 201, 3, 6, 29) := rfl
theorem d_125_20 : mj_cd 125 20 = some (.return_, 1, 0, 0) := rfl
theorem d_126_0 : mj_cd 126 0 = some (.iload_n 1, 1, 0, 0) := rfl
theorem d_126_1 : mj_cd 126 1 = some (.i2l, 1, 0, 0) := rfl
theorem d_126_2 : mj_cd 126 2 = some (.lconst 0, 1, 0, 0) := rfl
theorem d_126_3 : mj_cd 126 3 = some (.ldc2_w 162, 3, 13, 1) := rfl
theorem d_126_6 : mj_cd 126 6 = some (.invokestatic 91, 3, 133, 0) := rfl
theorem d_126_9 : mj_cd 126 9 = some (.ifCond .ne 6, 3, 0, 0) := rfl
theorem d_126_12 : mj_cd 126 12 = some (.bipush (-2), 2, 0, 0) := rfl
theorem d_126_14 : mj_cd 126 14 = some (.ireturn, 1, 0, 0) := rfl
theorem d_126_15 : mj_cd 126 15 = some (.aload_n 0, 1, 0, 0) := rfl
theorem d_126_16 : mj_cd 126 16 = some (.getfield 164, 3, 6, 6) := rfl
theorem d_126_19 : mj_cd 126 19 = some (.sipush 160, 3, 0, 0) := rfl
theorem d_126_22 : mj_cd 126 22 = some (.if_icmp .ne 6, 3, 0, 0) := rfl
theorem d_126_25 : mj_cd 126 25 = some (.bipush (-4), 2, 0, 0) := rfl
theorem d_126_27 : mj_cd 126 27 = some (.ireturn, 1, 0, 0) := rfl
theorem d_126_28 : mj_cd 126 28 = some (.aload_n 0, 1, 0, 0) := rfl
theorem d_126_29 : mj_cd 126 29 = some (.getfield 20, 3, 6, 5) := rfl
theorem d_126_32 : mj_cd 126 32 = some (.aload_n 0, 1, 0, 0) := rfl
theorem d_126_33 : mj_cd 126 33 = some (.getfield 164, 3, 6, 6) := rfl
theorem d_126_36 : mj_cd 126 36 = some (.iload_n 1, 1, 0, 0) := rfl
theorem d_126_37 : mj_cd 126 37 = some (.iastore, 1, 0, 0) := rfl
theorem d_126_38 : mj_cd 126 38 = some (.aload_n 0, 1, 0, 0) := rfl
theorem d_126_39 : mj_cd 126 39 = some (.dup, 1, 0, 0) := rfl
theorem d_126_40 : mj_cd 126 40 = some (.getfield 164, 3, 6, 6) := rfl
theorem d_126_43 : mj_cd 126 43 = some (.iconst 1, 1, 0, 0) := rfl
theorem d_126_44 : mj_cd 126 44 = some (.iadd, 1, 0, 0) := rfl
theorem d_126_45 : mj_cd 126 45 = some (.putfield 164, 3, 6, 6) := rfl
theorem d_126_48 : mj_cd 126 48 = some (.aload_n 0, 1, 0, 0) := rfl
theorem d_126_49 : mj_cd 126 49 = some (.getfield 164, 3, 6, 6) := rfl
theorem d_126_52 : mj_cd 126 52 = some (.ireturn, 1, 0, 0) := rfl
theorem d_133_0 : mj_cd 133 0 = some (.lload_n 0, 1, 0, 0) := rfl
theorem d_133_1 : mj_cd 133 1 = some (.lload_n 2, 1, 0, 0) := rfl
theorem d_133_2 : mj_cd 133 2 = some (.lcmp, 1, 0, 0) := rfl
theorem d_133_3 : mj_cd 133 3 = some (.ifCond .lt 14, 3, 0, 0) := rfl
theorem d_133_6 : mj_cd 133 6 = some (.lload_n 0, 1, 0, 0) := rfl
theorem d_133_7 : mj_cd 133 7 = some (.lload 4, 2, 0, 0) := rfl
theorem d_133_9 : mj_cd 133 9 = some (.lcmp, 1, 0, 0) := rfl
theorem d_133_10 : mj_cd 133 10 = some (.ifCond .gt 7, 3, 0, 0) := rfl
theorem d_133_13 : mj_cd 133 13 = some (.iconst 1, 1, 0, 0) := rfl
theorem d_133_14 : mj_cd 133 14 = some (.goto 4, 3, 0, 0) := rfl
theorem d_133_17 : mj_cd 133 17 = some (.iconst 0, 1, 0, 0) := rfl
theorem d_133_18 : mj_cd 133 18 = some (.ireturn, 1, 0, 0) := rfl
theorem d_136_0 : mj_cd 136 0 = some (.aload_n 0, 1, 0, 0) := rfl
theorem d_136_1 : mj_cd 136 1 = some (.getfield 179, 3, 6, 25) := rfl
theorem d_136_4 : mj_cd 136 4 = some (.iload_n 1, 1, 0, 0) := rfl
theorem d_136_5 : mj_cd 136 5 = some (.iadd, 1, 0, 0) := rfl
theorem d_136_6 : mj_cd 136 6 = some (.aload_n 0, 1, 0, 0) := rfl
theorem d_136_7 : mj_cd 136 7 = some (.getfield 173, 3, 6, 23) := rfl
theorem d_136_10 : mj_cd 136 10 = some (.if_icmp .ge 25, 3, 0, 0) := rfl
theorem d_136_13 : mj_cd 136 13 = some (.aload_n 0, 1, 0, 0) := rfl
theorem d_136_14 : mj_cd 136 14 = some (.aload_n 0, 1, 0, 0) := rfl
theorem d_136_15 : mj_cd 136 15 = some (.getfield 179, 3, 6, 25) := rfl
theorem d_136_18 : mj_cd 136 18 = some (.iload_n 1, 1, 0, 0) := rfl
theorem d_136_19 : mj_cd 136 19 = some (.iadd, 1, 0, 0) := rfl
theorem d_136_20 : mj_cd 136 20 = some (.invokevirtual 176, 3, 113, 0) := rfl
theorem d_136_23 : mj_cd 136 23 = some (.iload_n 2, 1, 0, 0) := rfl
theorem d_136_24 : mj_cd 136 24 = some (.if_icmp .ne 7, 3, 0, 0) := rfl
theorem d_136_27 : mj_cd 136 27 = some (.iconst 1, 1, 0, 0) := rfl
theorem d_136_28 : mj_cd 136 28 = some (.goto 16, 3, 0, 0) := rfl
theorem d_136_31 : mj_cd 136 31 = some (.iconst 0, 1, 0, 0) := rfl
theorem d_136_32 : mj_cd 136 32 = some (.goto 12, 3, 0, 0) := rfl
theorem d_136_35 : mj_cd 136 35 = some (.iload_n 2, 1, 0, 0) := rfl
theorem d_136_36 : mj_cd 136 36 = some (.ifCond .ne 7, 3, 0, 0) := rfl
theorem d_136_39 : mj_cd 136 39 = some (.iconst 1, 1, 0, 0) := rfl
theorem d_136_40 : mj_cd 136 40 = some (.goto 4, 3, 0, 0) := rfl
theorem d_136_43 : mj_cd 136 43 = some (.iconst 0, 1, 0, 0) := rfl
theorem d_136_44 : mj_cd 136 44 = some (.ireturn, 1, 0, 0) := rfl
theorem d_140_0 : mj_cd 140 0 = some (.aload_n 0, 1, 0, 0) := rfl
theorem d_140_1 : mj_cd 140 1 = some (.getfield 197, 3, 6, 28) := rfl
theorem d_140_4 : mj_cd 140 4 = some (.ifCond .ne 25, 3, 0, 0) := rfl
theorem d_140_7 : mj_cd 140 7 = some (.aload_n 0, 1, 0, 0) := rfl
theorem d_140_8 : mj_cd 140 8 = some (.getfield 182, 3, 6, 24) := rfl
theorem d_140_11 : mj_cd 140 11 = some (.iconst 3, 1, 0, 0) := rfl
theorem d_140_12 : mj_cd 140 12 = some (.if_icmp .ne 17, 3, 0, 0) := rfl
theorem d_140_15 : mj_cd 140 15 = some (.aload_n 0, 1, 0, 0) := rfl
theorem d_140_16 : mj_cd 140 16 = some (.getfield 193, 3, 6, 26) := rfl
theorem d_140_19 : mj_cd 140 19 = some (.iload_n 1, 1, 0, 0) := rfl
theorem d_140_20 : mj_cd 140 20 = some (.i2l, 1, 0, 0) := rfl
theorem d_140_21 : mj_cd 140 21 = some (.lcmp, 1, 0, 0) := rfl
theorem d_140_22 : mj_cd 140 22 = some (.ifCond .ne 7, 3, 0, 0) := rfl
theorem d_140_25 : mj_cd 140 25 = some (.iconst 1, 1, 0, 0) := rfl
theorem d_140_26 : mj_cd 140 26 = some (.goto 4, 3, 0, 0) := rfl
theorem d_140_29 : mj_cd 140 29 = some (.iconst 0, 1, 0, 0) := rfl
theorem d_140_30 : mj_cd 140 30 = some (.ireturn, 1, 0, 0) := rfl
theorem d_142_0 : mj_cd 142 0 = some (.aload_n 0, 1, 0, 0) := rfl
theorem d_142_1 : mj_cd 142 1 = some (.getfield 197, 3, 6, 28) := rfl
theorem d_142_4 : mj_cd 142 4 = some (.ifCond .ne 108, 3, 0, 0) := rfl
theorem d_142_7 : mj_cd 142 7 = some (.aload_n 0, 1, 0, 0) := rfl
theorem d_142_8 : mj_cd 142 8 = some (.getfield 182, 3, 6, 24) := rfl
theorem d_142_11 : mj_cd 142 11 = some (.iconst 1, 1, 0, 0) := rfl
theorem d_142_12 : mj_cd 142 12 = some (.if_icmp .ne 100, 3, 0, 0) := rfl
theorem d_142_15 : mj_cd 142 15 = some (.aload_n 0, 1, 0, 0) := rfl
theorem d_142_16 : mj_cd 142 16 = some (.getfield 173, 3, 6, 23) := rfl
theorem d_142_19 : mj_cd 142 19 = some (.aload_n 0, 1, 0, 0) := rfl
theorem d_142_20 : mj_cd 142 20 = some (.getfield 179, 3, 6, 25) := rfl
theorem d_142_23 : mj_cd 142 23 = some (.bipush 8, 2, 0, 0) := rfl
theorem d_142_25 : mj_cd 142 25 = some (.iadd, 1, 0, 0) := rfl
theorem d_142_26 : mj_cd 142 26 = some (.if_icmp .gt 86, 3, 0, 0) := rfl
theorem d_142_29 : mj_cd 142 29 = some (.aload_n 0, 1, 0, 0) := rfl
theorem d_142_30 : mj_cd 142 30 = some (.iconst 0, 1, 0, 0) := rfl
theorem d_142_31 : mj_cd 142 31 = some (.iload_n 1, 1, 0, 0) := rfl
theorem d_142_32 : mj_cd 142 32 = some (.invokevirtual 204, 3, 136, 0) := rfl
theorem d_142_35 : mj_cd 142 35 = some (.ifCond .eq 77, 3, 0, 0) := rfl
theorem d_142_38 : mj_cd 142 38 = some (.aload_n 0, 1, 0, 0) := rfl
theorem d_142_39 : mj_cd 142 39 = some (.iconst 1, 1, 0, 0) := rfl
theorem d_142_40 : mj_cd 142 40 = some (.iload_n 2, 1, 0, 0) := rfl
theorem d_142_41 : mj_cd 142 41 = some (.invokevirtual 204, 3, 136, 0) := rfl
theorem d_142_44 : mj_cd 142 44 = some (.ifCond .eq 68, 3, 0, 0) := rfl
theorem d_142_47 : mj_cd 142 47 = some (.aload_n 0, 1, 0, 0) := rfl
theorem d_142_48 : mj_cd 142 48 = some (.iconst 2, 1, 0, 0) := rfl
theorem d_142_49 : mj_cd 142 49 = some (.iload_n 3, 1, 0, 0) := rfl
theorem d_142_50 : mj_cd 142 50 = some (.invokevirtual 204, 3, 136, 0) := rfl
theorem d_142_53 : mj_cd 142 53 = some (.ifCond .eq 59, 3, 0, 0) := rfl
theorem d_142_56 : mj_cd 142 56 = some (.aload_n 0, 1, 0, 0) := rfl
theorem d_142_57 : mj_cd 142 57 = some (.iconst 3, 1, 0, 0) := rfl
theorem d_142_58 : mj_cd 142 58 = some (.iload 4, 2, 0, 0) := rfl
theorem d_142_60 : mj_cd 142 60 = some (.invokevirtual 204, 3, 136, 0) := rfl
theorem d_142_63 : mj_cd 142 63 = some (.ifCond .eq 49, 3, 0, 0) := rfl
theorem d_142_66 : mj_cd 142 66 = some (.aload_n 0, 1, 0, 0) := rfl
theorem d_142_67 : mj_cd 142 67 = some (.iconst 4, 1, 0, 0) := rfl
theorem d_142_68 : mj_cd 142 68 = some (.iload 5, 2, 0, 0) := rfl
theorem d_142_70 : mj_cd 142 70 = some (.invokevirtual 204, 3, 136, 0) := rfl
theorem d_142_73 : mj_cd 142 73 = some (.ifCond .eq 39, 3, 0, 0) := rfl
theorem d_142_76 : mj_cd 142 76 = some (.aload_n 0, 1, 0, 0) := rfl
theorem d_142_77 : mj_cd 142 77 = some (.iconst 5, 1, 0, 0) := rfl
theorem d_142_78 : mj_cd 142 78 = some (.iload 6, 2, 0, 0) := rfl
theorem d_142_80 : mj_cd 142 80 = some (.invokevirtual 204, 3, 136, 0) := rfl
theorem d_142_83 : mj_cd 142 83 = some (.ifCond .eq 29, 3, 0, 0) := rfl
theorem d_142_86 : mj_cd 142 86 = some (.aload_n 0, 1, 0, 0) := rfl
theorem d_142_87 : mj_cd 142 87 = some (.bipush 6, 2, 0, 0) := rfl
theorem d_142_89 : mj_cd 142 89 = some (.iload 7, 2, 0, 0) := rfl
theorem d_142_91 : mj_cd 142 91 = some (.invokevirtual 204, 3, 136, 0) := rfl
theorem d_142_94 : mj_cd 142 94 = some (.ifCond .eq 18, 3, 0, 0) := rfl
theorem d_142_97 : mj_cd 142 97 = some (.aload_n 0, 1, 0, 0) := rfl
theorem d_142_98 : mj_cd 142 98 = some (.bipush 7, 2, 0, 0) := rfl
theorem d_142_100 : mj_cd 142 100 = some (.iload 8, 2, 0, 0) := rfl
theorem d_142_102 : mj_cd 142 102 = some (.invokevirtual 204, 3, 136, 0) := rfl
theorem d_142_105 : mj_cd 142 105 = some (.ifCond .eq 7, 3, 0, 0) := rfl
theorem d_142_108 : mj_cd 142 108 = some (.iconst 1, 1, 0, 0) := rfl
theorem d_142_109 : mj_cd 142 109 = some (.goto 4, 3, 0, 0) := rfl
theorem d_142_112 : mj_cd 142 112 = some (.iconst 0, 1, 0, 0) := rfl
theorem d_142_113 : mj_cd 142 113 = some (.ireturn, 1, 0, 0) := rfl
theorem d_152_0 : mj_cd 152 0 = some (.aload_n 0, 1, 0, 0) := rfl
theorem d_152_1 : mj_cd 152 1 = some (.bipush 115, 2, 0, 0) := rfl
theorem d_152_3 : mj_cd 152 3 = some (.bipush 105, 2, 0, 0) := rfl
theorem d_152_5 : mj_cd 152 5 = some (.bipush 122, 2, 0, 0) := rfl
theorem d_152_7 : mj_cd 152 7 = some (.bipush 101, 2, 0, 0) := rfl
theorem d_152_9 : mj_cd 152 9 = some (.iconst 0, 1, 0, 0) := rfl
theorem d_152_10 : mj_cd 152 10 = some (.iconst 0, 1, 0, 0) := rfl
theorem d_152_11 : mj_cd 152 11 = some (.iconst 0, 1, 0, 0) := rfl
theorem d_152_12 : mj_cd 152 12 = some (.iconst 0, 1, 0, 0) := rfl
theorem d_152_13 : mj_cd 152 13 = some (.invokevirtual 216, 3, 142, 0) := rfl
theorem d_152_16 : mj_cd 152 16 = some (.ifCond .eq 8, 3, 0, 0) := rfl
theorem d_152_19 : mj_cd 152 19 = some (.aload_n 0, 1, 0, 0) := rfl
theorem d_152_20 : mj_cd 152 20 = some (.getfield 220, 3, 6, 15) := rfl
theorem d_152_23 : mj_cd 152 23 = some (.ireturn, 1, 0, 0) := rfl
theorem d_152_24 : mj_cd 152 24 = some (.aload_n 0, 1, 0, 0) := rfl
theorem d_152_25 : mj_cd 152 25 = some (.bipush 102, 2, 0, 0) := rfl
theorem d_152_27 : mj_cd 152 27 = some (.bipush 108, 2, 0, 0) := rfl
theorem d_152_29 : mj_cd 152 29 = some (.bipush 111, 2, 0, 0) := rfl
theorem d_152_31 : mj_cd 152 31 = some (.bipush 111, 2, 0, 0) := rfl
theorem d_152_33 : mj_cd 152 33 = some (.bipush 114, 2, 0, 0) := rfl
theorem d_152_35 : mj_cd 152 35 = some (.iconst 0, 1, 0, 0) := rfl
theorem d_152_36 : mj_cd 152 36 = some (.iconst 0, 1, 0, 0) := rfl
theorem d_152_37 : mj_cd 152 37 = some (.iconst 0, 1, 0, 0) := rfl
theorem d_152_38 : mj_cd 152 38 = some (.invokevirtual 216, 3, 142, 0) := rfl
theorem d_152_41 : mj_cd 152 41 = some (.ifCond .eq 8, 3, 0, 0) := rfl
theorem d_152_44 : mj_cd 152 44 = some (.aload_n 0, 1, 0, 0) := rfl
theorem d_152_45 : mj_cd 152 45 = some (.getfield 223, 3, 6, 16) := rfl
theorem d_152_48 : mj_cd 152 48 = some (.ireturn, 1, 0, 0) := rfl
theorem d_152_49 : mj_cd 152 49 = some (.aload_n 0, 1, 0, 0) := rfl
theorem d_152_50 : mj_cd 152 50 = some (.bipush 110, 2, 0, 0) := rfl
theorem d_152_52 : mj_cd 152 52 = some (.bipush 105, 2, 0, 0) := rfl
theorem d_152_54 : mj_cd 152 54 = some (.bipush 103, 2, 0, 0) := rfl
theorem d_152_56 : mj_cd 152 56 = some (.bipush 104, 2, 0, 0) := rfl
theorem d_152_58 : mj_cd 152 58 = some (.bipush 116, 2, 0, 0) := rfl
theorem d_152_60 : mj_cd 152 60 = some (.iconst 0, 1, 0, 0) := rfl
theorem d_152_61 : mj_cd 152 61 = some (.iconst 0, 1, 0, 0) := rfl
theorem d_152_62 : mj_cd 152 62 = some (.iconst 0, 1, 0, 0) := rfl
theorem d_152_63 : mj_cd 152 63 = some (.invokevirtual 216, 3, 142, 0) := rfl
theorem d_152_66 : mj_cd 152 66 = some (.ifCond .eq 8, 3, 0, 0) := rfl
theorem d_152_69 : mj_cd 152 69 = some (.aload_n 0, 1, 0, 0) := rfl
theorem d_152_70 : mj_cd 152 70 = some (.getfield 226, 3, 6, 17) := rfl
theorem d_152_73 : mj_cd 152 73 = some (.ireturn, 1, 0, 0) := rfl
theorem d_152_74 : mj_cd 152 74 = some (.aload_n 0, 1, 0, 0) := rfl
theorem d_152_75 : mj_cd 152 75 = some (.bipush 110, 2, 0, 0) := rfl
theorem d_152_77 : mj_cd 152 77 = some (.bipush 117, 2, 0, 0) := rfl
theorem d_152_79 : mj_cd 152 79 = some (.bipush 109, 2, 0, 0) := rfl
theorem d_152_81 : mj_cd 152 81 = some (.bipush 98, 2, 0, 0) := rfl
theorem d_152_83 : mj_cd 152 83 = some (.bipush 101, 2, 0, 0) := rfl
theorem d_152_85 : mj_cd 152 85 = some (.bipush 114, 2, 0, 0) := rfl
theorem d_152_87 : mj_cd 152 87 = some (.iconst 0, 1, 0, 0) := rfl
theorem d_152_88 : mj_cd 152 88 = some (.iconst 0, 1, 0, 0) := rfl
theorem d_152_89 : mj_cd 152 89 = some (.invokevirtual 216, 3, 142, 0) := rfl
theorem d_152_92 : mj_cd 152 92 = some (.ifCond .eq 8, 3, 0, 0) := rfl
theorem d_152_95 : mj_cd 152 95 = some (.aload_n 0, 1, 0, 0) := rfl
theorem d_152_96 : mj_cd 152 96 = some (.getfield 229, 3, 6, 18) := rfl
theorem d_152_99 : mj_cd 152 99 = some (.ireturn, 1, 0, 0) := rfl
theorem d_152_100 : mj_cd 152 100 = some (.aload_n 0, 1, 0, 0) := rfl
theorem d_152_101 : mj_cd 152 101 = some (.bipush 111, 2, 0, 0) := rfl
theorem d_152_103 : mj_cd 152 103 = some (.bipush 119, 2, 0, 0) := rfl
theorem d_152_105 : mj_cd 152 105 = some (.bipush 101, 2, 0, 0) := rfl
theorem d_152_107 : mj_cd 152 107 = some (.bipush 115, 2, 0, 0) := rfl
theorem d_152_109 : mj_cd 152 109 = some (.iconst 0, 1, 0, 0) := rfl
theorem d_152_110 : mj_cd 152 110 = some (.iconst 0, 1, 0, 0) := rfl
theorem d_152_111 : mj_cd 152 111 = some (.iconst 0, 1, 0, 0) := rfl
theorem d_152_112 : mj_cd 152 112 = some (.iconst 0, 1, 0, 0) := rfl
theorem d_152_113 : mj_cd 152 113 = some (.invokevirtual 216, 3, 142, 0) := rfl
theorem d_152_116 : mj_cd 152 116 = some (.ifCond .eq 8, 3, 0, 0) := rfl
theorem d_152_119 : mj_cd 152 119 = some (.aload_n 0, 1, 0, 0) := rfl
theorem d_152_120 : mj_cd 152 120 = some (.getfield 232, 3, 6, 19) := rfl
theorem d_152_123 : mj_cd 152 123 = some (.ireturn, 1, 0, 0) := rfl
theorem d_152_124 : mj_cd 152 124 = some (.aload_n 0, 1, 0, 0) := rfl
theorem d_152_125 : mj_cd 152 125 = some (.bipush 115, 2, 0, 0) := rfl
theorem d_152_127 : mj_cd 152 127 = some (.bipush 112, 2, 0, 0) := rfl
theorem d_152_129 : mj_cd 152 129 = some (.bipush 97, 2, 0, 0) := rfl
theorem d_152_131 : mj_cd 152 131 = some (.bipush 99, 2, 0, 0) := rfl
theorem d_152_133 : mj_cd 152 133 = some (.bipush 101, 2, 0, 0) := rfl
theorem d_152_135 : mj_cd 152 135 = some (.iconst 0, 1, 0, 0) := rfl
theorem d_152_136 : mj_cd 152 136 = some (.iconst 0, 1, 0, 0) := rfl
theorem d_152_137 : mj_cd 152 137 = some (.iconst 0, 1, 0, 0) := rfl
theorem d_152_138 : mj_cd 152 138 = some (.invokevirtual 216, 3, 142, 0) := rfl
theorem d_152_141 : mj_cd 152 141 = some (.ifCond .eq 8, 3, 0, 0) := rfl
theorem d_152_144 : mj_cd 152 144 = some (.aload_n 0, 1, 0, 0) := rfl
theorem d_152_145 : mj_cd 152 145 = some (.getfield 235, 3, 6, 20) := rfl
theorem d_152_148 : mj_cd 152 148 = some (.ireturn, 1, 0, 0) := rfl
theorem d_152_149 : mj_cd 152 149 = some (.aload_n 0, 1, 0, 0) := rfl
theorem d_152_150 : mj_cd 152 150 = some (.invokevirtual 210, 3, 125, 0) := rfl
theorem d_152_153 : mj_cd 152 153 = some (.iconst 0, 1, 0, 0) := rfl
theorem d_152_154 : mj_cd 152 154 = some (.ireturn, 1, 0, 0) := rfl
theorem d_154_0 : mj_cd 154 0 = some (.aload_n 0, 1, 0, 0) := rfl
theorem d_154_1 : mj_cd 154 1 = some (.aload_n 0, 1, 0, 0) := rfl
theorem d_154_2 : mj_cd 154 2 = some (.getfield 173, 3, 6, 23) := rfl
theorem d_154_5 : mj_cd 154 5 = some (.invokevirtual 176, 3, 113, 0) := rfl
theorem d_154_8 : mj_cd 154 8 = some (.bipush 32, 2, 0, 0) := rfl
theorem d_154_10 : mj_cd 154 10 = some (.if_icmp .eq 16, 3, 0, 0) := rfl
theorem d_154_13 : mj_cd 154 13 = some (.aload_n 0, 1, 0, 0) := rfl
theorem d_154_14 : mj_cd 154 14 = some (.aload_n 0, 1, 0, 0) := rfl
theorem d_154_15 : mj_cd 154 15 = some (.getfield 173, 3, 6, 23) := rfl
theorem d_154_18 : mj_cd 154 18 = some (.invokevirtual 176, 3, 113, 0) := rfl
theorem d_154_21 : mj_cd 154 21 = some (.bipush 10, 2, 0, 0) := rfl
theorem d_154_23 : mj_cd 154 23 = some (.if_icmp .ne 16, 3, 0, 0) := rfl
theorem d_154_26 : mj_cd 154 26 = some (.aload_n 0, 1, 0, 0) := rfl
theorem d_154_27 : mj_cd 154 27 = some (.dup, 1, 0, 0) := rfl
theorem d_154_28 : mj_cd 154 28 = some (.getfield 173, 3, 6, 23) := rfl
theorem d_154_31 : mj_cd 154 31 = some (.iconst 1, 1, 0, 0) := rfl
theorem d_154_32 : mj_cd 154 32 = some (.iadd, 1, 0, 0) := rfl
theorem d_154_33 : mj_cd 154 33 = some (.putfield 173, 3, 6, 23) := rfl
theorem d_154_36 : mj_cd 154 36 = some (.goto (-36), 3, 0, 0) := rfl
theorem d_154_39 : mj_cd 154 39 = some (.aload_n 0, 1, 0, 0) := rfl
theorem d_154_40 : mj_cd 154 40 = some (.aload_n 0, 1, 0, 0) := rfl
theorem d_154_41 : mj_cd 154 41 = some (.getfield 173, 3, 6, 23) := rfl
theorem d_154_44 : mj_cd 154 44 = some (.putfield 179, 3, 6, 25) := rfl
theorem d_154_47 : mj_cd 154 47 = some (.aload_n 0, 1, 0, 0) := rfl
theorem d_154_48 : mj_cd 154 48 = some (.aload_n 0, 1, 0, 0) := rfl
theorem d_154_49 : mj_cd 154 49 = some (.getfield 173, 3, 6, 23) := rfl
theorem d_154_52 : mj_cd 154 52 = some (.invokevirtual 176, 3, 113, 0) := rfl
theorem d_154_55 : mj_cd 154 55 = some (.istore_n 1, 1, 0, 0) := rfl
theorem d_154_56 : mj_cd 154 56 = some (.aload_n 0, 1, 0, 0) := rfl
theorem d_154_57 : mj_cd 154 57 = some (.iconst 4, 1, 0, 0) := rfl
theorem d_154_58 : mj_cd 154 58 = some (.putfield 182, 3, 6, 24) := rfl
theorem d_154_61 : mj_cd 154 61 = some (.iload_n 1, 1, 0, 0) := rfl
theorem d_154_62 : mj_cd 154 62 = some (.ifCond .ge 19, 3, 0, 0) := rfl
theorem d_154_65 : mj_cd 154 65 = some (.aload_n 0, 1, 0, 0) := rfl
theorem d_154_66 : mj_cd 154 66 = some (.iconst 0, 1, 0, 0) := rfl
theorem d_154_67 : mj_cd 154 67 = some (.putfield 182, 3, 6, 24) := rfl
theorem d_154_70 : mj_cd 154 70 = some (.aload_n 0, 1, 0, 0) := rfl
theorem d_154_71 : mj_cd 154 71 = some (.aload_n 0, 1, 0, 0) := rfl
theorem d_154_72 : mj_cd 154 72 = some (.getfield 167, 3, 6, 22) := rfl
theorem d_154_75 : mj_cd 154 75 = some (.putfield 179, 3, 6, 25) := rfl
theorem d_154_78 : mj_cd 154 78 = some (.goto 243, 3, 0, 0) := rfl
theorem d_154_81 : mj_cd 154 81 = some (.iload_n 1, 1, 0, 0) := rfl
theorem d_154_82 : mj_cd 154 82 = some (.i2l, 1, 0, 0) := rfl
theorem d_154_83 : mj_cd 154 83 = some (.ldc2_w 185, 3, 14, 1) := rfl
theorem d_154_86 : mj_cd 154 86 = some (.ldc2_w 187, 3, 15, 1) := rfl
theorem d_154_89 : mj_cd 154 89 = some (.invokestatic 91, 3, 133, 0) := rfl
theorem d_154_92 : mj_cd 154 92 = some (.ifCond .eq 42, 3, 0, 0) := rfl
theorem d_154_95 : mj_cd 154 95 = some (.aload_n 0, 1, 0, 0) := rfl
theorem d_154_96 : mj_cd 154 96 = some (.iconst 1, 1, 0, 0) := rfl
theorem d_154_97 : mj_cd 154 97 = some (.putfield 182, 3, 6, 24) := rfl
theorem d_154_100 : mj_cd 154 100 = some (.aload_n 0, 1, 0, 0) := rfl
theorem d_154_101 : mj_cd 154 101 = some (.aload_n 0, 1, 0, 0) := rfl
theorem d_154_102 : mj_cd 154 102 = some (.getfield 173, 3, 6, 23) := rfl
theorem d_154_105 : mj_cd 154 105 = some (.invokevirtual 176, 3, 113, 0) := rfl
theorem d_154_108 : mj_cd 154 108 = some (.i2l, 1, 0, 0) := rfl
theorem d_154_109 : mj_cd 154 109 = some (.ldc2_w 185, 3, 14, 1) := rfl
theorem d_154_112 : mj_cd 154 112 = some (.ldc2_w 187, 3, 15, 1) := rfl
theorem d_154_115 : mj_cd 154 115 = some (.invokestatic 91, 3, 133, 0) := rfl
theorem d_154_118 : mj_cd 154 118 = some (.ifCond .eq 203, 3, 0, 0) := rfl
theorem d_154_121 : mj_cd 154 121 = some (.aload_n 0, 1, 0, 0) := rfl
theorem d_154_122 : mj_cd 154 122 = some (.dup, 1, 0, 0) := rfl
theorem d_154_123 : mj_cd 154 123 = some (.getfield 173, 3, 6, 23) := rfl
theorem d_154_126 : mj_cd 154 126 = some (.iconst 1, 1, 0, 0) := rfl
theorem d_154_127 : mj_cd 154 127 = some (.iadd, 1, 0, 0) := rfl
theorem d_154_128 : mj_cd 154 128 = some (.putfield 173, 3, 6, 23) := rfl
theorem d_154_131 : mj_cd 154 131 = some (.goto (-31), 3, 0, 0) := rfl
theorem d_154_134 : mj_cd 154 134 = some (.iload_n 1, 1, 0, 0) := rfl
theorem d_154_135 : mj_cd 154 135 = some (.i2l, 1, 0, 0) := rfl
theorem d_154_136 : mj_cd 154 136 = some (.ldc2_w 189, 3, 16, 1) := rfl
theorem d_154_139 : mj_cd 154 139 = some (.ldc2_w 191, 3, 17, 1) := rfl
theorem d_154_142 : mj_cd 154 142 = some (.invokestatic 91, 3, 133, 0) := rfl
theorem d_154_145 : mj_cd 154 145 = some (.ifCond .eq 107, 3, 0, 0) := rfl
theorem d_154_148 : mj_cd 154 148 = some (.aload_n 0, 1, 0, 0) := rfl
theorem d_154_149 : mj_cd 154 149 = some (.iconst 2, 1, 0, 0) := rfl
theorem d_154_150 : mj_cd 154 150 = some (.putfield 182, 3, 6, 24) := rfl
theorem d_154_153 : mj_cd 154 153 = some (.aload_n 0, 1, 0, 0) := rfl
theorem d_154_154 : mj_cd 154 154 = some (.lconst 0, 1, 0, 0) := rfl
theorem d_154_155 : mj_cd 154 155 = some (.putfield 193, 3, 6, 26) := rfl
theorem d_154_158 : mj_cd 154 158 = some (.iconst 0, 1, 0, 0) := rfl
theorem d_154_159 : mj_cd 154 159 = some (.istore_n 2, 1, 0, 0) := rfl
theorem d_154_160 : mj_cd 154 160 = some (.aload_n 0, 1, 0, 0) := rfl
theorem d_154_161 : mj_cd 154 161 = some (.aload_n 0, 1, 0, 0) := rfl
theorem d_154_162 : mj_cd 154 162 = some (.getfield 173, 3, 6, 23) := rfl
theorem d_154_165 : mj_cd 154 165 = some (.invokevirtual 176, 3, 113, 0) := rfl
theorem d_154_168 : mj_cd 154 168 = some (.i2l, 1, 0, 0) := rfl
theorem d_154_169 : mj_cd 154 169 = some (.ldc2_w 189, 3, 16, 1) := rfl
theorem d_154_172 : mj_cd 154 172 = some (.ldc2_w 191, 3, 17, 1) := rfl
theorem d_154_175 : mj_cd 154 175 = some (.invokestatic 91, 3, 133, 0) := rfl
theorem d_154_178 : mj_cd 154 178 = some (.ifCond .eq 57, 3, 0, 0) := rfl
theorem d_154_181 : mj_cd 154 181 = some (.aload_n 0, 1, 0, 0) := rfl
theorem d_154_182 : mj_cd 154 182 = some (.iload_n 2, 1, 0, 0) := rfl
theorem d_154_183 : mj_cd 154 183 = some (.iconst 4, 1, 0, 0) := rfl
theorem d_154_184 : mj_cd 154 184 = some (.if_icmp .ge 28, 3, 0, 0) := rfl
theorem d_154_187 : mj_cd 154 187 = some (.ldc2_w 157, 3, 12, 1) := rfl
theorem d_154_190 : mj_cd 154 190 = some (.aload_n 0, 1, 0, 0) := rfl
theorem d_154_191 : mj_cd 154 191 = some (.getfield 193, 3, 6, 26) := rfl
theorem d_154_194 : mj_cd 154 194 = some (.lmul, 1, 0, 0) := rfl
theorem d_154_195 : mj_cd 154 195 = some (.aload_n 0, 1, 0, 0) := rfl
theorem d_154_196 : mj_cd 154 196 = some (.aload_n 0, 1, 0, 0) := rfl
theorem d_154_197 : mj_cd 154 197 = some (.getfield 173, 3, 6, 23) := rfl
theorem d_154_200 : mj_cd 154 200 = some (.invokevirtual 176, 3, 113, 0) := rfl
theorem d_154_203 : mj_cd 154 203 = some (.i2l, 1, 0, 0) := rfl
theorem d_154_204 : mj_cd 154 204 = some (.ladd, 1, 0, 0) := rfl
theorem d_154_205 : mj_cd 154 205 = some (.ldc2_w 189, 3, 16, 1) := rfl
theorem d_154_208 : mj_cd 154 208 = some (.lsub, 1, 0, 0) := rfl
theorem d_154_209 : mj_cd 154 209 = some (.goto 7, 3, 0, 0) := rfl
theorem d_154_212 : mj_cd 154 212 = some (.aload_n 0, 1, 0, 0) := rfl
theorem d_154_213 : mj_cd 154 213 = some (.getfield 193, 3, 6, 26) := rfl
theorem d_154_216 : mj_cd 154 216 = some (.putfield 193, 3, 6, 26) := rfl
theorem d_154_219 : mj_cd 154 219 = some (.iinc 2 1, 3, 0, 0) := rfl
theorem d_154_222 : mj_cd 154 222 = some (.aload_n 0, 1, 0, 0) := rfl
theorem d_154_223 : mj_cd 154 223 = some (.dup, 1, 0, 0) := rfl
theorem d_154_224 : mj_cd 154 224 = some (.getfield 173, 3, 6, 23) := rfl
theorem d_154_227 : mj_cd 154 227 = some (.iconst 1, 1, 0, 0) := rfl
theorem d_154_228 : mj_cd 154 228 = some (.iadd, 1, 0, 0) := rfl
theorem d_154_229 : mj_cd 154 229 = some (.putfield 173, 3, 6, 23) := rfl
theorem d_154_232 : mj_cd 154 232 = some (.goto (-72), 3, 0, 0) := rfl
theorem d_154_235 : mj_cd 154 235 = some (.aload_n 0, 1, 0, 0) := rfl
theorem d_154_236 : mj_cd 154 236 = some (.iload_n 2, 1, 0, 0) := rfl
theorem d_154_237 : mj_cd 154 237 = some (.iconst 4, 1, 0, 0) := rfl
theorem d_154_238 : mj_cd 154 238 = some (.if_icmp .le 7, 3, 0, 0) := rfl
theorem d_154_241 : mj_cd 154 241 = some (.iconst 4, 1, 0, 0) := rfl
theorem d_154_242 : mj_cd 154 242 = some (.goto 4, 3, 0, 0) := rfl
theorem d_154_245 : mj_cd 154 245 = some (.iconst 2, 1, 0, 0) := rfl
theorem d_154_246 : mj_cd 154 246 = some (.putfield 182, 3, 6, 24) := rfl
theorem d_154_249 : mj_cd 154 249 = some (.goto 72, 3, 0, 0) := rfl
theorem d_154_252 : mj_cd 154 252 = some (.iload_n 1, 1, 0, 0) := rfl
theorem d_154_253 : mj_cd 154 253 = some (.bipush 40, 2, 0, 0) := rfl
theorem d_154_255 : mj_cd 154 255 = some (.if_icmp .eq 45, 3, 0, 0) := rfl
theorem d_154_258 : mj_cd 154 258 = some (.iload_n 1, 1, 0, 0) := rfl
theorem d_154_259 : mj_cd 154 259 = some (.bipush 41, 2, 0, 0) := rfl
theorem d_154_261 : mj_cd 154 261 = some (.if_icmp .eq 39, 3, 0, 0) := rfl
theorem d_154_264 : mj_cd 154 264 = some (.iload_n 1, 1, 0, 0) := rfl
theorem d_154_265 : mj_cd 154 265 = some (.bipush 59, 2, 0, 0) := rfl
theorem d_154_267 : mj_cd 154 267 = some (.if_icmp .eq 33, 3, 0, 0) := rfl
theorem d_154_270 : mj_cd 154 270 = some (.iload_n 1, 1, 0, 0) := rfl
theorem d_154_271 : mj_cd 154 271 = some (.bipush 43, 2, 0, 0) := rfl
theorem d_154_273 : mj_cd 154 273 = some (.if_icmp .eq 27, 3, 0, 0) := rfl
theorem d_154_276 : mj_cd 154 276 = some (.iload_n 1, 1, 0, 0) := rfl
theorem d_154_277 : mj_cd 154 277 = some (.bipush 45, 2, 0, 0) := rfl
theorem d_154_279 : mj_cd 154 279 = some (.if_icmp .eq 21, 3, 0, 0) := rfl
theorem d_154_282 : mj_cd 154 282 = some (.iload_n 1, 1, 0, 0) := rfl
theorem d_154_283 : mj_cd 154 283 = some (.bipush 42, 2, 0, 0) := rfl
theorem d_154_285 : mj_cd 154 285 = some (.if_icmp .eq 15, 3, 0, 0) := rfl
theorem d_154_288 : mj_cd 154 288 = some (.iload_n 1, 1, 0, 0) := rfl
theorem d_154_289 : mj_cd 154 289 = some (.bipush 60, 2, 0, 0) := rfl
theorem d_154_291 : mj_cd 154 291 = some (.if_icmp .eq 9, 3, 0, 0) := rfl
theorem d_154_294 : mj_cd 154 294 = some (.iload_n 1, 1, 0, 0) := rfl
theorem d_154_295 : mj_cd 154 295 = some (.bipush 61, 2, 0, 0) := rfl
theorem d_154_297 : mj_cd 154 297 = some (.if_icmp .ne 24, 3, 0, 0) := rfl
theorem d_154_300 : mj_cd 154 300 = some (.aload_n 0, 1, 0, 0) := rfl
theorem d_154_301 : mj_cd 154 301 = some (.iconst 3, 1, 0, 0) := rfl
theorem d_154_302 : mj_cd 154 302 = some (.putfield 182, 3, 6, 24) := rfl
theorem d_154_305 : mj_cd 154 305 = some (.aload_n 0, 1, 0, 0) := rfl
theorem d_154_306 : mj_cd 154 306 = some (.iload_n 1, 1, 0, 0) := rfl
theorem d_154_307 : mj_cd 154 307 = some (.i2l, 1, 0, 0) := rfl
theorem d_154_308 : mj_cd 154 308 = some (.putfield 193, 3, 6, 26) := rfl
theorem d_154_311 : mj_cd 154 311 = some (.aload_n 0, 1, 0, 0) := rfl
theorem d_154_312 : mj_cd 154 312 = some (.dup, 1, 0, 0) := rfl
theorem d_154_313 : mj_cd 154 313 = some (.getfield 173, 3, 6, 23) := rfl
theorem d_154_316 : mj_cd 154 316 = some (.iconst 1, 1, 0, 0) := rfl
theorem d_154_317 : mj_cd 154 317 = some (.iadd, 1, 0, 0) := rfl
theorem d_154_318 : mj_cd 154 318 = some (.putfield 173, 3, 6, 23) := rfl
theorem d_154_321 : mj_cd 154 321 = some (.return_, 1, 0, 0) := rfl
theorem d_156_0 : mj_cd 156 0 = some (.aload_n 0, 1, 0, 0) := rfl
theorem d_156_1 : mj_cd 156 1 = some (.bipush 110, 2, 0, 0) := rfl
theorem d_156_3 : mj_cd 156 3 = some (.bipush 111, 2, 0, 0) := rfl
theorem d_156_5 : mj_cd 156 5 = some (.bipush 116, 2, 0, 0) := rfl
theorem d_156_7 : mj_cd 156 7 = some (.iconst 0, 1, 0, 0) := rfl
theorem d_156_8 : mj_cd 156 8 = some (.iconst 0, 1, 0, 0) := rfl
theorem d_156_9 : mj_cd 156 9 = some (.iconst 0, 1, 0, 0) := rfl
theorem d_156_10 : mj_cd 156 10 = some (.iconst 0, 1, 0, 0) := rfl
theorem d_156_11 : mj_cd 156 11 = some (.iconst 0, 1, 0, 0) := rfl
theorem d_156_12 : mj_cd 156 12 = some (.invokevirtual 216, 3, 142, 0) := rfl
theorem d_156_15 : mj_cd 156 15 = some (.ifCond .eq 37, 3, 0, 0) := rfl
theorem d_156_18 : mj_cd 156 18 = some (.aload_n 0, 1, 0, 0) := rfl
theorem d_156_19 : mj_cd 156 19 = some (.invokevirtual 241, 3, 158, 0) := rfl
theorem d_156_22 : mj_cd 156 22 = some (.ifCond .ne 5, 3, 0, 0) := rfl
theorem d_156_25 : mj_cd 156 25 = some (.iconst 0, 1, 0, 0) := rfl
theorem d_156_26 : mj_cd 156 26 = some (.ireturn, 1, 0, 0) := rfl
theorem d_156_27 : mj_cd 156 27 = some (.aload_n 0, 1, 0, 0) := rfl
theorem d_156_28 : mj_cd 156 28 = some (.invokevirtual 260, 3, 156, 0) := rfl
theorem d_156_31 : mj_cd 156 31 = some (.istore_n 1, 1, 0, 0) := rfl
theorem d_156_32 : mj_cd 156 32 = some (.aload_n 0, 1, 0, 0) := rfl
theorem d_156_33 : mj_cd 156 33 = some (.dup, 1, 0, 0) := rfl
theorem d_156_34 : mj_cd 156 34 = some (.getfield 207, 3, 6, 27) := rfl
theorem d_156_37 : mj_cd 156 37 = some (.iconst 1, 1, 0, 0) := rfl
theorem d_156_38 : mj_cd 156 38 = some (.isub, 1, 0, 0) := rfl
theorem d_156_39 : mj_cd 156 39 = some (.putfield 207, 3, 6, 27) := rfl
theorem d_156_42 : mj_cd 156 42 = some (.iload_n 1, 1, 0, 0) := rfl
theorem d_156_43 : mj_cd 156 43 = some (.ifCond .ne 7, 3, 0, 0) := rfl
theorem d_156_46 : mj_cd 156 46 = some (.iconst 1, 1, 0, 0) := rfl
theorem d_156_47 : mj_cd 156 47 = some (.goto 4, 3, 0, 0) := rfl
theorem d_156_50 : mj_cd 156 50 = some (.iconst 0, 1, 0, 0) := rfl
theorem d_156_51 : mj_cd 156 51 = some (.ireturn, 1, 0, 0) := rfl
theorem d_156_52 : mj_cd 156 52 = some (.aload_n 0, 1, 0, 0) := rfl
theorem d_156_53 : mj_cd 156 53 = some (.invokevirtual 263, 3, 105, 0) := rfl
theorem d_156_56 : mj_cd 156 56 = some (.istore_n 1, 1, 0, 0) := rfl
theorem d_156_57 : mj_cd 156 57 = some (.aload_n 0, 1, 0, 0) := rfl
theorem d_156_58 : mj_cd 156 58 = some (.bipush 60, 2, 0, 0) := rfl
theorem d_156_60 : mj_cd 156 60 = some (.invokevirtual 238, 3, 140, 0) := rfl
theorem d_156_63 : mj_cd 156 63 = some (.ifCond .ne 14, 3, 0, 0) := rfl
theorem d_156_66 : mj_cd 156 66 = some (.aload_n 0, 1, 0, 0) := rfl
theorem d_156_67 : mj_cd 156 67 = some (.bipush 61, 2, 0, 0) := rfl
theorem d_156_69 : mj_cd 156 69 = some (.invokevirtual 238, 3, 140, 0) := rfl
theorem d_156_72 : mj_cd 156 72 = some (.ifCond .ne 5, 3, 0, 0) := rfl
theorem d_156_75 : mj_cd 156 75 = some (.iload_n 1, 1, 0, 0) := rfl
theorem d_156_76 : mj_cd 156 76 = some (.ireturn, 1, 0, 0) := rfl
theorem d_156_77 : mj_cd 156 77 = some (.aload_n 0, 1, 0, 0) := rfl
theorem d_156_78 : mj_cd 156 78 = some (.getfield 193, 3, 6, 26) := rfl
theorem d_156_81 : mj_cd 156 81 = some (.ldc2_w 266, 3, 19, 1) := rfl
theorem d_156_84 : mj_cd 156 84 = some (.lcmp, 1, 0, 0) := rfl
theorem d_156_85 : mj_cd 156 85 = some (.ifCond .ne 7, 3, 0, 0) := rfl
theorem d_156_88 : mj_cd 156 88 = some (.iconst 1, 1, 0, 0) := rfl
theorem d_156_89 : mj_cd 156 89 = some (.goto 4, 3, 0, 0) := rfl
theorem d_156_92 : mj_cd 156 92 = some (.iconst 0, 1, 0, 0) := rfl
theorem d_156_93 : mj_cd 156 93 = some (.istore_n 2, 1, 0, 0) := rfl
theorem d_156_94 : mj_cd 156 94 = some (.aload_n 0, 1, 0, 0) := rfl
theorem d_156_95 : mj_cd 156 95 = some (.invokevirtual 213, 3, 154, 0) := rfl
theorem d_156_98 : mj_cd 156 98 = some (.aload_n 0, 1, 0, 0) := rfl
theorem d_156_99 : mj_cd 156 99 = some (.invokevirtual 263, 3, 105, 0) := rfl
theorem d_156_102 : mj_cd 156 102 = some (.istore_n 3, 1, 0, 0) := rfl
theorem d_156_103 : mj_cd 156 103 = some (.iload_n 2, 1, 0, 0) := rfl
theorem d_156_104 : mj_cd 156 104 = some (.ifCond .eq 11, 3, 0, 0) := rfl
theorem d_156_107 : mj_cd 156 107 = some (.iload_n 1, 1, 0, 0) := rfl
theorem d_156_108 : mj_cd 156 108 = some (.iload_n 3, 1, 0, 0) := rfl
theorem d_156_109 : mj_cd 156 109 = some (.if_icmp .ge 15, 3, 0, 0) := rfl
theorem d_156_112 : mj_cd 156 112 = some (.goto 8, 3, 0, 0) := rfl
theorem d_156_115 : mj_cd 156 115 = some (.iload_n 1, 1, 0, 0) := rfl
theorem d_156_116 : mj_cd 156 116 = some (.iload_n 3, 1, 0, 0) := rfl
theorem d_156_117 : mj_cd 156 117 = some (.if_icmp .ne 7, 3, 0, 0) := rfl
theorem d_156_120 : mj_cd 156 120 = some (.iconst 1, 1, 0, 0) := rfl
theorem d_156_121 : mj_cd 156 121 = some (.goto 4, 3, 0, 0) := rfl
theorem d_156_124 : mj_cd 156 124 = some (.iconst 0, 1, 0, 0) := rfl
theorem d_156_125 : mj_cd 156 125 = some (.ireturn, 1, 0, 0) := rfl
theorem d_158_0 : mj_cd 158 0 = some (.aload_n 0, 1, 0, 0) := rfl
theorem d_158_1 : mj_cd 158 1 = some (.getfield 207, 3, 6, 27) := rfl
theorem d_158_4 : mj_cd 158 4 = some (.iconst 5, 1, 0, 0) := rfl
theorem d_158_5 : mj_cd 158 5 = some (.if_icmp .ne 9, 3, 0, 0) := rfl
theorem d_158_8 : mj_cd 158 8 = some (.aload_n 0, 1, 0, 0) := rfl
theorem d_158_9 : mj_cd 158 9 = some (.invokevirtual 210, 3, 125, 0) := rfl
theorem d_158_12 : mj_cd 158 12 = some (.iconst 0, 1, 0, 0) := rfl
theorem d_158_13 : mj_cd 158 13 = some (.ireturn, 1, 0, 0) := rfl
theorem d_158_14 : mj_cd 158 14 = some (.aload_n 0, 1, 0, 0) := rfl
theorem d_158_15 : mj_cd 158 15 = some (.dup, 1, 0, 0) := rfl
theorem d_158_16 : mj_cd 158 16 = some (.getfield 207, 3, 6, 27) := rfl
theorem d_158_19 : mj_cd 158 19 = some (.iconst 1, 1, 0, 0) := rfl
theorem d_158_20 : mj_cd 158 20 = some (.iadd, 1, 0, 0) := rfl
theorem d_158_21 : mj_cd 158 21 = some (.putfield 207, 3, 6, 27) := rfl
theorem d_158_24 : mj_cd 158 24 = some (.aload_n 0, 1, 0, 0) := rfl
theorem d_158_25 : mj_cd 158 25 = some (.invokevirtual 213, 3, 154, 0) := rfl
theorem d_158_28 : mj_cd 158 28 = some (.iconst 1, 1, 0, 0) := rfl
theorem d_158_29 : mj_cd 158 29 = some (.ireturn, 1, 0, 0) := rfl
theorem d_161_0 : mj_cd 161 0 = some (.iload_n 1, 1, 0, 0) := rfl
theorem d_161_1 : mj_cd 161 1 = some (.ifCond .ne 7, 3, 0, 0) := rfl
theorem d_161_4 : mj_cd 161 4 = some (.aload_n 0, 1, 0, 0) := rfl
theorem d_161_5 : mj_cd 161 5 = some (.invokevirtual 210, 3, 125, 0) := rfl
theorem d_161_8 : mj_cd 161 8 = some (.aload_n 0, 1, 0, 0) := rfl
theorem d_161_9 : mj_cd 161 9 = some (.getfield 197, 3, 6, 28) := rfl
theorem d_161_12 : mj_cd 161 12 = some (.ifCond .ne 7, 3, 0, 0) := rfl
theorem d_161_15 : mj_cd 161 15 = some (.aload_n 0, 1, 0, 0) := rfl
theorem d_161_16 : mj_cd 161 16 = some (.invokevirtual 213, 3, 154, 0) := rfl
theorem d_161_19 : mj_cd 161 19 = some (.aload_n 0, 1, 0, 0) := rfl
theorem d_161_20 : mj_cd 161 20 = some (.getfield 197, 3, 6, 28) := rfl
theorem d_161_23 : mj_cd 161 23 = some (.ifCond .eq 7, 3, 0, 0) := rfl
theorem d_161_26 : mj_cd 161 26 = some (.iconst 0, 1, 0, 0) := rfl
theorem d_161_27 : mj_cd 161 27 = some (.goto 7, 3, 0, 0) := rfl
theorem d_161_30 : mj_cd 161 30 = some (.aload_n 0, 1, 0, 0) := rfl
theorem d_161_31 : mj_cd 161 31 = some (.invokevirtual 249, 3, 123, 0) := rfl
theorem d_161_34 : mj_cd 161 34 = some (.istore_n 2, 1, 0, 0) := rfl
theorem d_161_35 : mj_cd 161 35 = some (.aload_n 0, 1, 0, 0) := rfl
theorem d_161_36 : mj_cd 161 36 = some (.bipush 59, 2, 0, 0) := rfl
theorem d_161_38 : mj_cd 161 38 = some (.invokevirtual 238, 3, 140, 0) := rfl
theorem d_161_41 : mj_cd 161 41 = some (.ifCond .ne 7, 3, 0, 0) := rfl
theorem d_161_44 : mj_cd 161 44 = some (.aload_n 0, 1, 0, 0) := rfl
theorem d_161_45 : mj_cd 161 45 = some (.invokevirtual 210, 3, 125, 0) := rfl
theorem d_161_48 : mj_cd 161 48 = some (.aload_n 0, 1, 0, 0) := rfl
theorem d_161_49 : mj_cd 161 49 = some (.getfield 197, 3, 6, 28) := rfl
theorem d_161_52 : mj_cd 161 52 = some (.ifCond .ne 7, 3, 0, 0) := rfl
theorem d_161_55 : mj_cd 161 55 = some (.aload_n 0, 1, 0, 0) := rfl
theorem d_161_56 : mj_cd 161 56 = some (.invokevirtual 213, 3, 154, 0) := rfl
theorem d_161_59 : mj_cd 161 59 = some (.iload_n 2, 1, 0, 0) := rfl
theorem d_161_60 : mj_cd 161 60 = some (.ireturn, 1, 0, 0) := rfl
theorem d_164_0 : mj_cd 164 0 = some (.aload_n 0, 1, 0, 0) := rfl
theorem d_164_1 : mj_cd 164 1 = some (.sipush 160, 3, 0, 0) := rfl
theorem d_164_4 : mj_cd 164 4 = some (.iload_n 1, 1, 0, 0) := rfl
theorem d_164_5 : mj_cd 164 5 = some (.imul, 1, 0, 0) := rfl
theorem d_164_6 : mj_cd 164 6 = some (.putfield 170, 3, 6, 21) := rfl
theorem d_164_9 : mj_cd 164 9 = some (.aload_n 0, 1, 0, 0) := rfl
theorem d_164_10 : mj_cd 164 10 = some (.aload_n 0, 1, 0, 0) := rfl
theorem d_164_11 : mj_cd 164 11 = some (.getfield 17, 3, 6, 2) := rfl
theorem d_164_14 : mj_cd 164 14 = some (.iload_n 1, 1, 0, 0) := rfl
theorem d_164_15 : mj_cd 164 15 = some (.iaload, 1, 0, 0) := rfl
theorem d_164_16 : mj_cd 164 16 = some (.putfield 167, 3, 6, 22) := rfl
theorem d_164_19 : mj_cd 164 19 = some (.aload_n 0, 1, 0, 0) := rfl
theorem d_164_20 : mj_cd 164 20 = some (.iconst 0, 1, 0, 0) := rfl
theorem d_164_21 : mj_cd 164 21 = some (.putfield 173, 3, 6, 23) := rfl
theorem d_164_24 : mj_cd 164 24 = some (.aload_n 0, 1, 0, 0) := rfl
theorem d_164_25 : mj_cd 164 25 = some (.iconst 0, 1, 0, 0) := rfl
theorem d_164_26 : mj_cd 164 26 = some (.putfield 207, 3, 6, 27) := rfl
theorem d_164_29 : mj_cd 164 29 = some (.aload_n 0, 1, 0, 0) := rfl
theorem d_164_30 : mj_cd 164 30 = some (.iconst 0, 1, 0, 0) := rfl
theorem d_164_31 : mj_cd 164 31 = some (.putfield 197, 3, 6, 28) := rfl
theorem d_164_34 : mj_cd 164 34 = some (.aload_n 0, 1, 0, 0) := rfl
theorem d_164_35 : mj_cd 164 35 = some (.invokevirtual 213, 3, 154, 0) := rfl
theorem d_164_38 : mj_cd 164 38 = some (.aload_n 0, 1, 0, 0) := rfl
theorem d_164_39 : mj_cd 164 39 = some (.aload_n 0, 1, 0, 0) := rfl
theorem d_164_40 : mj_cd 164 40 = some (.bipush 114, 2, 0, 0) := rfl
theorem d_164_42 : mj_cd 164 42 = some (.bipush 101, 2, 0, 0) := rfl
theorem d_164_44 : mj_cd 164 44 = some (.bipush 110, 2, 0, 0) := rfl
theorem d_164_46 : mj_cd 164 46 = some (.bipush 116, 2, 0, 0) := rfl
theorem d_164_48 : mj_cd 164 48 = some (.bipush 115, 2, 0, 0) := rfl
theorem d_164_50 : mj_cd 164 50 = some (.iconst 0, 1, 0, 0) := rfl
theorem d_164_51 : mj_cd 164 51 = some (.iconst 0, 1, 0, 0) := rfl
theorem d_164_52 : mj_cd 164 52 = some (.iconst 0, 1, 0, 0) := rfl
theorem d_164_53 : mj_cd 164 53 = some (.invokevirtual 216, 3, 142, 0) := rfl
theorem d_164_56 : mj_cd 164 56 = some (.invokevirtual 271, 3, 161, 0) := rfl
theorem d_164_59 : mj_cd 164 59 = some (.istore_n 3, 1, 0, 0) := rfl
theorem d_164_60 : mj_cd 164 60 = some (.aload_n 0, 1, 0, 0) := rfl
theorem d_164_61 : mj_cd 164 61 = some (.getfield 197, 3, 6, 28) := rfl
theorem d_164_64 : mj_cd 164 64 = some (.ifCond .eq 7, 3, 0, 0) := rfl
theorem d_164_67 : mj_cd 164 67 = some (.iconst 0, 1, 0, 0) := rfl
theorem d_164_68 : mj_cd 164 68 = some (.goto 24, 3, 0, 0) := rfl
theorem d_164_71 : mj_cd 164 71 = some (.aload_n 0, 1, 0, 0) := rfl
theorem d_164_72 : mj_cd 164 72 = some (.aload_n 0, 1, 0, 0) := rfl
theorem d_164_73 : mj_cd 164 73 = some (.bipush 108, 2, 0, 0) := rfl
theorem d_164_75 : mj_cd 164 75 = some (.bipush 101, 2, 0, 0) := rfl
theorem d_164_77 : mj_cd 164 77 = some (.bipush 97, 2, 0, 0) := rfl
theorem d_164_79 : mj_cd 164 79 = some (.bipush 107, 2, 0, 0) := rfl
theorem d_164_81 : mj_cd 164 81 = some (.bipush 115, 2, 0, 0) := rfl
theorem d_164_83 : mj_cd 164 83 = some (.iconst 0, 1, 0, 0) := rfl
theorem d_164_84 : mj_cd 164 84 = some (.iconst 0, 1, 0, 0) := rfl
theorem d_164_85 : mj_cd 164 85 = some (.iconst 0, 1, 0, 0) := rfl
theorem d_164_86 : mj_cd 164 86 = some (.invokevirtual 216, 3, 142, 0) := rfl
theorem d_164_89 : mj_cd 164 89 = some (.invokevirtual 271, 3, 161, 0) := rfl
theorem d_164_92 : mj_cd 164 92 = some (.istore 4, 2, 0, 0) := rfl
theorem d_164_94 : mj_cd 164 94 = some (.aload_n 0, 1, 0, 0) := rfl
theorem d_164_95 : mj_cd 164 95 = some (.getfield 197, 3, 6, 28) := rfl
theorem d_164_98 : mj_cd 164 98 = some (.ifCond .eq 7, 3, 0, 0) := rfl
theorem d_164_101 : mj_cd 164 101 = some (.iconst 0, 1, 0, 0) := rfl
theorem d_164_102 : mj_cd 164 102 = some (.goto 24, 3, 0, 0) := rfl
theorem d_164_105 : mj_cd 164 105 = some (.aload_n 0, 1, 0, 0) := rfl
theorem d_164_106 : mj_cd 164 106 = some (.aload_n 0, 1, 0, 0) := rfl
theorem d_164_107 : mj_cd 164 107 = some (.bipush 109, 2, 0, 0) := rfl
theorem d_164_109 : mj_cd 164 109 = some (.bipush 105, 2, 0, 0) := rfl
theorem d_164_111 : mj_cd 164 111 = some (.bipush 110, 2, 0, 0) := rfl
theorem d_164_113 : mj_cd 164 113 = some (.bipush 100, 2, 0, 0) := rfl
theorem d_164_115 : mj_cd 164 115 = some (.bipush 115, 2, 0, 0) := rfl
theorem d_164_117 : mj_cd 164 117 = some (.iconst 0, 1, 0, 0) := rfl
theorem d_164_118 : mj_cd 164 118 = some (.iconst 0, 1, 0, 0) := rfl
theorem d_164_119 : mj_cd 164 119 = some (.iconst 0, 1, 0, 0) := rfl
theorem d_164_120 : mj_cd 164 120 = some (.invokevirtual 216, 3, 142, 0) := rfl
theorem d_164_123 : mj_cd 164 123 = some (.invokevirtual 271, 3, 161, 0) := rfl
theorem d_164_126 : mj_cd 164 126 = some (.istore 5, 2, 0, 0) := rfl
theorem d_164_128 : mj_cd 164 128 = some (.aload_n 0, 1, 0, 0) := rfl
theorem d_164_129 : mj_cd 164 129 = some (.getfield 197, 3, 6, 28) := rfl
theorem d_164_132 : mj_cd 164 132 = some (.ifCond .ne 14, 3, 0, 0) := rfl
theorem d_164_135 : mj_cd 164 135 = some (.aload_n 0, 1, 0, 0) := rfl
theorem d_164_136 : mj_cd 164 136 = some (.getfield 182, 3, 6, 24) := rfl
theorem d_164_139 : mj_cd 164 139 = some (.ifCond .eq 7, 3, 0, 0) := rfl
theorem d_164_142 : mj_cd 164 142 = some (.aload_n 0, 1, 0, 0) := rfl
theorem d_164_143 : mj_cd 164 143 = some (.invokevirtual 210, 3, 125, 0) := rfl
theorem d_164_146 : mj_cd 164 146 = some (.iload_n 2, 1, 0, 0) := rfl
theorem d_164_147 : mj_cd 164 147 = some (.ifCond .ne 7, 3, 0, 0) := rfl
theorem d_164_150 : mj_cd 164 150 = some (.iload_n 3, 1, 0, 0) := rfl
theorem d_164_151 : mj_cd 164 151 = some (.goto 15, 3, 0, 0) := rfl
theorem d_164_154 : mj_cd 164 154 = some (.iload_n 2, 1, 0, 0) := rfl
theorem d_164_155 : mj_cd 164 155 = some (.iconst 1, 1, 0, 0) := rfl
theorem d_164_156 : mj_cd 164 156 = some (.if_icmp .ne 8, 3, 0, 0) := rfl
theorem d_164_159 : mj_cd 164 159 = some (.iload 4, 2, 0, 0) := rfl
theorem d_164_161 : mj_cd 164 161 = some (.goto 5, 3, 0, 0) := rfl
theorem d_164_164 : mj_cd 164 164 = some (.iload 5, 2, 0, 0) := rfl
theorem d_164_166 : mj_cd 164 166 = some (.ireturn, 1, 0, 0) := rfl
theorem d_172_0 : mj_cd 172 0 = some (.aload_n 0, 1, 0, 0) := rfl
theorem d_172_1 : mj_cd 172 1 = some (.invokevirtual 245, 3, 107, 0) := rfl
theorem d_172_4 : mj_cd 172 4 = some (.istore_n 1, 1, 0, 0) := rfl
theorem d_172_5 : mj_cd 172 5 = some (.aload_n 0, 1, 0, 0) := rfl
theorem d_172_6 : mj_cd 172 6 = some (.bipush 42, 2, 0, 0) := rfl
theorem d_172_8 : mj_cd 172 8 = some (.invokevirtual 238, 3, 140, 0) := rfl
theorem d_172_11 : mj_cd 172 11 = some (.ifCond .eq 17, 3, 0, 0) := rfl
theorem d_172_14 : mj_cd 172 14 = some (.aload_n 0, 1, 0, 0) := rfl
theorem d_172_15 : mj_cd 172 15 = some (.invokevirtual 213, 3, 154, 0) := rfl
theorem d_172_18 : mj_cd 172 18 = some (.iload_n 1, 1, 0, 0) := rfl
theorem d_172_19 : mj_cd 172 19 = some (.aload_n 0, 1, 0, 0) := rfl
theorem d_172_20 : mj_cd 172 20 = some (.invokevirtual 245, 3, 107, 0) := rfl
theorem d_172_23 : mj_cd 172 23 = some (.imul, 1, 0, 0) := rfl
theorem d_172_24 : mj_cd 172 24 = some (.istore_n 1, 1, 0, 0) := rfl
theorem d_172_25 : mj_cd 172 25 = some (.goto (-20), 3, 0, 0) := rfl
theorem d_172_28 : mj_cd 172 28 = some (.iload_n 1, 1, 0, 0) := rfl
theorem d_172_29 : mj_cd 172 29 = some (.ireturn, 1, 0, 0) := rfl
theorem d_173_0 : mj_cd 173 0 = some (.aload_n 0, 1, 0, 0) := rfl
theorem d_173_1 : mj_cd 173 1 = some (.getfield 85, 3, 6, 3) := rfl
theorem d_173_4 : mj_cd 173 4 = some (.bipush 6, 2, 0, 0) := rfl
theorem d_173_6 : mj_cd 173 6 = some (.if_icmp .ne 6, 3, 0, 0) := rfl
theorem d_173_9 : mj_cd 173 9 = some (.bipush (-4), 2, 0, 0) := rfl
theorem d_173_11 : mj_cd 173 11 = some (.ireturn, 1, 0, 0) := rfl
theorem d_173_12 : mj_cd 173 12 = some (.iconst 0, 1, 0, 0) := rfl
theorem d_173_13 : mj_cd 173 13 = some (.istore_n 1, 1, 0, 0) := rfl
theorem d_173_14 : mj_cd 173 14 = some (.iload_n 1, 1, 0, 0) := rfl
theorem d_173_15 : mj_cd 173 15 = some (.aload_n 0, 1, 0, 0) := rfl
theorem d_173_16 : mj_cd 173 16 = some (.getfield 164, 3, 6, 6) := rfl
theorem d_173_19 : mj_cd 173 19 = some (.if_icmp .ge 30, 3, 0, 0) := rfl
theorem d_173_22 : mj_cd 173 22 = some (.aload_n 0, 1, 0, 0) := rfl
theorem d_173_23 : mj_cd 173 23 = some (.getfield 13, 3, 6, 1) := rfl
theorem d_173_26 : mj_cd 173 26 = some (.sipush 160, 3, 0, 0) := rfl
theorem d_173_29 : mj_cd 173 29 = some (.aload_n 0, 1, 0, 0) := rfl
theorem d_173_30 : mj_cd 173 30 = some (.getfield 85, 3, 6, 3) := rfl
theorem d_173_33 : mj_cd 173 33 = some (.imul, 1, 0, 0) := rfl
theorem d_173_34 : mj_cd 173 34 = some (.iload_n 1, 1, 0, 0) := rfl
theorem d_173_35 : mj_cd 173 35 = some (.iadd, 1, 0, 0) := rfl
theorem d_173_36 : mj_cd 173 36 = some (.aload_n 0, 1, 0, 0) := rfl
theorem d_173_37 : mj_cd 173 37 = some (.getfield 20, 3, 6, 5) := rfl
theorem d_173_40 : mj_cd 173 40 = some (.iload_n 1, 1, 0, 0) := rfl
theorem d_173_41 : mj_cd 173 41 = some (.iaload, 1, 0, 0) := rfl
theorem d_173_42 : mj_cd 173 42 = some (.iastore, 1, 0, 0) := rfl
theorem d_173_43 : mj_cd 173 43 = some (.iinc 1 1, 3, 0, 0) := rfl
theorem d_173_46 : mj_cd 173 46 = some (.goto (-32), 3, 0, 0) := rfl
theorem d_173_49 : mj_cd 173 49 = some (.aload_n 0, 1, 0, 0) := rfl
theorem d_173_50 : mj_cd 173 50 = some (.getfield 17, 3, 6, 2) := rfl
theorem d_173_53 : mj_cd 173 53 = some (.aload_n 0, 1, 0, 0) := rfl
theorem d_173_54 : mj_cd 173 54 = some (.getfield 85, 3, 6, 3) := rfl
theorem d_173_57 : mj_cd 173 57 = some (.aload_n 0, 1, 0, 0) := rfl
theorem d_173_58 : mj_cd 173 58 = some (.getfield 164, 3, 6, 6) := rfl
theorem d_173_61 : mj_cd 173 61 = some (.iastore, 1, 0, 0) := rfl
theorem d_173_62 : mj_cd 173 62 = some (.aload_n 0, 1, 0, 0) := rfl
theorem d_173_63 : mj_cd 173 63 = some (.iconst 0, 1, 0, 0) := rfl
theorem d_173_64 : mj_cd 173 64 = some (.putfield 164, 3, 6, 6) := rfl
theorem d_173_67 : mj_cd 173 67 = some (.aload_n 0, 1, 0, 0) := rfl
theorem d_173_68 : mj_cd 173 68 = some (.aload_n 0, 1, 0, 0) := rfl
theorem d_173_69 : mj_cd 173 69 = some (.getfield 85, 3, 6, 3) := rfl
theorem d_173_72 : mj_cd 173 72 = some (.iconst 0, 1, 0, 0) := rfl
theorem d_173_73 : mj_cd 173 73 = some (.invokevirtual 275, 3, 164, 0) := rfl
theorem d_173_76 : mj_cd 173 76 = some (.istore_n 1, 1, 0, 0) := rfl
theorem d_173_77 : mj_cd 173 77 = some (.aload_n 0, 1, 0, 0) := rfl
theorem d_173_78 : mj_cd 173 78 = some (.getfield 197, 3, 6, 28) := rfl
theorem d_173_81 : mj_cd 173 81 = some (.ifCond .eq 11, 3, 0, 0) := rfl
theorem d_173_84 : mj_cd 173 84 = some (.bipush (-100), 2, 0, 0) := rfl
theorem d_173_86 : mj_cd 173 86 = some (.aload_n 0, 1, 0, 0) := rfl
theorem d_173_87 : mj_cd 173 87 = some (.getfield 201, 3, 6, 29) := rfl
theorem d_173_90 : mj_cd 173 90 = some (.isub, 1, 0, 0) := rfl
theorem d_173_91 : mj_cd 173 91 = some (.ireturn, 1, 0, 0) := rfl
theorem d_173_92 : mj_cd 173 92 = some (.aload_n 0, 1, 0, 0) := rfl
theorem d_173_93 : mj_cd 173 93 = some (.dup, 1, 0, 0) := rfl
theorem d_173_94 : mj_cd 173 94 = some (.getfield 85, 3, 6, 3) := rfl
theorem d_173_97 : mj_cd 173 97 = some (.iconst 1, 1, 0, 0) := rfl
theorem d_173_98 : mj_cd 173 98 = some (.iadd, 1, 0, 0) := rfl
theorem d_173_99 : mj_cd 173 99 = some (.putfield 85, 3, 6, 3) := rfl
theorem d_173_102 : mj_cd 173 102 = some (.aload_n 0, 1, 0, 0) := rfl
theorem d_173_103 : mj_cd 173 103 = some (.getfield 85, 3, 6, 3) := rfl
theorem d_173_106 : mj_cd 173 106 = some (.iconst 1, 1, 0, 0) := rfl
theorem d_173_107 : mj_cd 173 107 = some (.isub, 1, 0, 0) := rfl
theorem d_173_108 : mj_cd 173 108 = some (.ireturn, 1, 0, 0) := rfl
theorem d_182_0 : mj_cd 182 0 = some (.aload_n 0, 1, 0, 0) := rfl
theorem d_182_1 : mj_cd 182 1 = some (.invokevirtual 492, 3, 185, 0) := rfl
theorem d_182_4 : mj_cd 182 4 = some (.ifCond .eq 12, 3, 0, 0) := rfl
theorem d_182_7 : mj_cd 182 7 = some (.aload_n 0, 1, 0, 0) := rfl
theorem d_182_8 : mj_cd 182 8 = some (.getfield 9, 3, 100, 1) := rfl
theorem d_182_11 : mj_cd 182 11 = some (.iload_n 1, 1, 0, 0) := rfl
theorem d_182_12 : mj_cd 182 12 = some (.invokestatic 495, 3, 187, 0) := rfl
theorem d_182_15 : mj_cd 182 15 = some (.ireturn, 1, 0, 0) := rfl
theorem d_182_16 : mj_cd 182 16 = some (.aload_n 0, 1, 0, 0) := rfl
theorem d_182_17 : mj_cd 182 17 = some (.getfield 9, 3, 100, 1) := rfl
theorem d_182_20 : mj_cd 182 20 = some (.iload_n 1, 1, 0, 0) := rfl
theorem d_182_21 : mj_cd 182 21 = some (.invokestatic 498, 3, 188, 0) := rfl
theorem d_182_24 : mj_cd 182 24 = some (.ireturn, 1, 0, 0) := rfl
theorem d_183_0 : mj_cd 183 0 = some (.iload_n 0, 1, 0, 0) := rfl
theorem d_183_1 : mj_cd 183 1 = some (.iload_n 1, 1, 0, 0) := rfl
theorem d_183_2 : mj_cd 183 2 = some (.getstatic 1053, 3, 3, 0) := rfl
theorem d_183_5 : mj_cd 183 5 = some (.invokestatic 1059, 3, 192, 0) := rfl
theorem d_183_8 : mj_cd 183 8 = some (.pop, 1, 0, 0) := rfl
theorem d_183_9 : mj_cd 183 9 = some (.return_, 1, 0, 0) := rfl
theorem d_184_0 : mj_cd 184 0 = some (.getstatic 38, 3, 2, 0) := rfl
theorem d_184_3 : mj_cd 184 3 = some (.ifCond .eq 10, 3, 0, 0) := rfl
theorem d_184_6 : mj_cd 184 6 = some (.aload_n 0, 1, 0, 0) := rfl
theorem d_184_7 : mj_cd 184 7 = some (.getfield 15, 3, 100, 0) := rfl
theorem d_184_10 : mj_cd 184 10 = some (.goto 4, 3, 0, 0) := rfl
theorem d_184_13 : mj_cd 184 13 = some (.iconst 1, 1, 0, 0) := rfl
theorem d_184_14 : mj_cd 184 14 = some (.ireturn, 1, 0, 0) := rfl
theorem d_185_0 : mj_cd 185 0 = some (.getstatic 38, 3, 2, 0) := rfl
theorem d_185_3 : mj_cd 185 3 = some (.ifCond .eq 14, 3, 0, 0) := rfl
theorem d_185_6 : mj_cd 185 6 = some (.aload_n 0, 1, 0, 0) := rfl
theorem d_185_7 : mj_cd 185 7 = some (.getfield 15, 3, 100, 0) := rfl
theorem d_185_10 : mj_cd 185 10 = some (.ifCond .ne 7, 3, 0, 0) := rfl
theorem d_185_13 : mj_cd 185 13 = some (.iconst 1, 1, 0, 0) := rfl
theorem d_185_14 : mj_cd 185 14 = some (.goto 4, 3, 0, 0) := rfl
theorem d_185_17 : mj_cd 185 17 = some (.iconst 0, 1, 0, 0) := rfl
theorem d_185_18 : mj_cd 185 18 = some (.ireturn, 1, 0, 0) := rfl
theorem d_186_0 : mj_cd 186 0 = some (.aload_n 0, 1, 0, 0) := rfl
theorem d_186_1 : mj_cd 186 1 = some (.getfield 9, 3, 100, 1) := rfl
theorem d_186_4 : mj_cd 186 4 = some (.arraylength, 1, 0, 0) := rfl
theorem d_186_5 : mj_cd 186 5 = some (.aload_n 0, 1, 0, 0) := rfl
theorem d_186_6 : mj_cd 186 6 = some (.invokevirtual 335, 3, 184, 0) := rfl
theorem d_186_9 : mj_cd 186 9 = some (.ishr, 1, 0, 0) := rfl
theorem d_186_10 : mj_cd 186 10 = some (.ireturn, 1, 0, 0) := rfl
theorem d_187_0 : mj_cd 187 0 = some (.iload_n 1, 1, 0, 0) := rfl
theorem d_187_1 : mj_cd 187 1 = some (.aload_n 0, 1, 0, 0) := rfl
theorem d_187_2 : mj_cd 187 2 = some (.arraylength, 1, 0, 0) := rfl
theorem d_187_3 : mj_cd 187 3 = some (.invokestatic 9, 3, 183, 0) := rfl
theorem d_187_6 : mj_cd 187 6 = some (.aload_n 0, 1, 0, 0) := rfl
theorem d_187_7 : mj_cd 187 7 = some (.iload_n 1, 1, 0, 0) := rfl
theorem d_187_8 : mj_cd 187 8 = some (.baload, 1, 0, 0) := rfl
theorem d_187_9 : mj_cd 187 9 = some (.sipush 255, 3, 0, 0) := rfl
theorem d_187_12 : mj_cd 187 12 = some (.iand, 1, 0, 0) := rfl
theorem d_187_13 : mj_cd 187 13 = some (.i2c, 1, 0, 0) := rfl
theorem d_187_14 : mj_cd 187 14 = some (.ireturn, 1, 0, 0) := rfl
theorem d_192_0 : mj_cd 192 0 = some (.iload_n 0, 1, 0, 0) := rfl
theorem d_192_1 : mj_cd 192 1 = some (.ifCond .lt 8, 3, 0, 0) := rfl
theorem d_192_4 : mj_cd 192 4 = some (.iload_n 0, 1, 0, 0) := rfl
theorem d_192_5 : mj_cd 192 5 = some (.iload_n 1, 1, 0, 0) := rfl
theorem d_192_6 : mj_cd 192 6 = some (.if_icmp .lt 10, 3, 0, 0) := rfl
theorem d_192_9 : mj_cd 192 9 = some (.aload_n 2, 1, 0, 0) := rfl
theorem d_192_10 : mj_cd 192 10 = some (.iload_n 0, 1, 0, 0) := rfl
theorem d_192_11 : mj_cd 192 11 = some (.iload_n 1, 1, 0, 0) := rfl
theorem d_192_12 : mj_cd 192 12 = some (.invokestatic 95, 3, 999, 0) := rfl
theorem d_192_15 : mj_cd 192 15 = some (.athrow, 1, 0, 0) := rfl
theorem d_192_16 : mj_cd 192 16 = some (.iload_n 0, 1, 0, 0) := rfl
theorem d_192_17 : mj_cd 192 17 = some (.ireturn, 1, 0, 0) := rfl
