theorem dX5_split_29 : decode cX5_split 29 = .ok (.ifCond .eq 5, 3) := by decide +kernel
theorem dX5_split_32 : decode cX5_split 32 = .ok (.iload_n 3, 1) := by decide +kernel
theorem dX5_split_33 : decode cX5_split 33 = .ok (.ireturn, 1) := by decide +kernel
theorem dX5_split_34 : decode cX5_split 34 = .ok (.iload_n 2, 1) := by decide +kernel
theorem dX5_split_35 : decode cX5_split 35 = .ok (.ifCond .ne 10, 3) := by decide +kernel
theorem dX5_split_38 : decode cX5_split 38 = .ok (.aload_n 0, 1) := by decide +kernel
theorem dX5_split_39 : decode cX5_split 39 = .ok (.bipush (-8), 2) := by decide +kernel
theorem dX5_split_41 : decode cX5_split 41 = .ok (.invokevirtual 112, 3) := by decide +kernel
theorem dX5_split_44 : decode cX5_split 44 = .ok (.ireturn, 1) := by decide +kernel
theorem dX5_split_45 : decode cX5_split 45 = .ok (.aload_n 0, 1) := by decide +kernel
theorem dX5_split_46 : decode cX5_split 46 = .ok (.aload_n 0, 1) := by decide +kernel
theorem dX5_split_47 : decode cX5_split 47 = .ok (.getfield 22, 3) := by decide +kernel
theorem dX5_split_50 : decode cX5_split 50 = .ok (.iload_n 1, 1) := by decide +kernel
theorem dX5_split_51 : decode cX5_split 51 = .ok (.iaload, 1) := by decide +kernel
theorem dX5_split_52 : decode cX5_split 52 = .ok (.iload_n 2, 1) := by decide +kernel
theorem dX5_split_53 : decode cX5_split 53 = .ok (.idiv, 1) := by decide +kernel
theorem dX5_split_54 : decode cX5_split 54 = .ok (.invokevirtual 109, 3) := by decide +kernel
theorem dX5_split_57 : decode cX5_split 57 = .ok (.ireturn, 1) := by decide +kernel
theorem dX5_swap_0 : decode cX5_swap 0 = .ok (.aload_n 0, 1) := by decide +kernel
theorem dX5_swap_1 : decode cX5_swap 1 = .ok (.iload_n 1, 1) := by decide +kernel
theorem dX5_swap_2 : decode cX5_swap 2 = .ok (.invokevirtual 67, 3) := by decide +kernel
theorem dX5_swap_5 : decode cX5_swap 5 = .ok (.ifCond .ne 6, 3) := by decide +kernel
theorem dX5_swap_8 : decode cX5_swap 8 = .ok (.bipush (-2), 2) := by decide +kernel
theorem dX5_swap_10 : decode cX5_swap 10 = .ok (.ireturn, 1) := by decide +kernel
theorem dX5_swap_11 : decode cX5_swap 11 = .ok (.aload_n 0, 1) := by decide +kernel
theorem dX5_swap_12 : decode cX5_swap 12 = .ok (.iload_n 1, 1) := by decide +kernel
theorem dX5_swap_13 : decode cX5_swap 13 = .ok (.invokevirtual 103, 3) := by decide +kernel
theorem dX5_swap_16 : decode cX5_swap 16 = .ok (.istore_n 2, 1) := by decide +kernel
theorem dX5_swap_17 : decode cX5_swap 17 = .ok (.iload_n 2, 1) := by decide +kernel
theorem dX5_swap_18 : decode cX5_swap 18 = .ok (.ifCond .eq 5, 3) := by decide +kernel
theorem dX5_swap_21 : decode cX5_swap 21 = .ok (.iload_n 2, 1) := by decide +kernel
theorem dX5_swap_22 : decode cX5_swap 22 = .ok (.ireturn, 1) := by decide +kernel
theorem dX5_swap_23 : decode cX5_swap 23 = .ok (.aload_n 0, 1) := by decide +kernel
theorem dX5_swap_24 : decode cX5_swap 24 = .ok (.getfield 31, 3) := by decide +kernel
theorem dX5_swap_27 : decode cX5_swap 27 = .ok (.iconst 2, 1) := by decide +kernel
theorem dX5_swap_28 : decode cX5_swap 28 = .ok (.iload_n 1, 1) := by decide +kernel
theorem dX5_swap_29 : decode cX5_swap 29 = .ok (.imul, 1) := by decide +kernel
theorem dX5_swap_30 : decode cX5_swap 30 = .ok (.iaload, 1) := by decide +kernel
theorem dX5_swap_31 : decode cX5_swap 31 = .ok (.istore_n 3, 1) := by decide +kernel
theorem dX5_swap_32 : decode cX5_swap 32 = .ok (.aload_n 0, 1) := by decide +kernel
theorem dX5_swap_33 : decode cX5_swap 33 = .ok (.getfield 31, 3) := by decide +kernel
theorem dX5_swap_36 : decode cX5_swap 36 = .ok (.iconst 2, 1) := by decide +kernel
theorem dX5_swap_37 : decode cX5_swap 37 = .ok (.iload_n 1, 1) := by decide +kernel
theorem dX5_swap_38 : decode cX5_swap 38 = .ok (.imul, 1) := by decide +kernel
theorem dX5_swap_39 : decode cX5_swap 39 = .ok (.aload_n 0, 1) := by decide +kernel
theorem dX5_swap_40 : decode cX5_swap 40 = .ok (.getfield 31, 3) := by decide +kernel
theorem dX5_swap_43 : decode cX5_swap 43 = .ok (.iconst 2, 1) := by decide +kernel
theorem dX5_swap_44 : decode cX5_swap 44 = .ok (.iload_n 1, 1) := by decide +kernel
theorem dX5_swap_45 : decode cX5_swap 45 = .ok (.imul, 1) := by decide +kernel
theorem dX5_swap_46 : decode cX5_swap 46 = .ok (.iconst 1, 1) := by decide +kernel
theorem dX5_swap_47 : decode cX5_swap 47 = .ok (.iadd, 1) := by decide +kernel
theorem dX5_swap_48 : decode cX5_swap 48 = .ok (.iaload, 1) := by decide +kernel
theorem dX5_swap_49 : decode cX5_swap 49 = .ok (.iastore, 1) := by decide +kernel
theorem dX5_swap_50 : decode cX5_swap 50 = .ok (.aload_n 0, 1) := by decide +kernel
theorem dX5_swap_51 : decode cX5_swap 51 = .ok (.getfield 31, 3) := by decide +kernel
theorem dX5_swap_54 : decode cX5_swap 54 = .ok (.iconst 2, 1) := by decide +kernel
theorem dX5_swap_55 : decode cX5_swap 55 = .ok (.iload_n 1, 1) := by decide +kernel
theorem dX5_swap_56 : decode cX5_swap 56 = .ok (.imul, 1) := by decide +kernel
theorem dX5_swap_57 : decode cX5_swap 57 = .ok (.iconst 1, 1) := by decide +kernel
theorem dX5_swap_58 : decode cX5_swap 58 = .ok (.iadd, 1) := by decide +kernel
theorem dX5_swap_59 : decode cX5_swap 59 = .ok (.iload_n 3, 1) := by decide +kernel
theorem dX5_swap_60 : decode cX5_swap 60 = .ok (.iastore, 1) := by decide +kernel
theorem dX5_swap_61 : decode cX5_swap 61 = .ok (.aload_n 0, 1) := by decide +kernel
theorem dX5_swap_62 : decode cX5_swap 62 = .ok (.aload_n 0, 1) := by decide +kernel
theorem dX5_swap_63 : decode cX5_swap 63 = .ok (.getfield 31, 3) := by decide +kernel
theorem dX5_swap_66 : decode cX5_swap 66 = .ok (.iconst 2, 1) := by decide +kernel
theorem dX5_swap_67 : decode cX5_swap 67 = .ok (.iload_n 1, 1) := by decide +kernel
theorem dX5_swap_68 : decode cX5_swap 68 = .ok (.imul, 1) := by decide +kernel
theorem dX5_swap_69 : decode cX5_swap 69 = .ok (.iaload, 1) := by decide +kernel
theorem dX5_swap_70 : decode cX5_swap 70 = .ok (.invokevirtual 109, 3) := by decide +kernel
theorem dX5_swap_73 : decode cX5_swap 73 = .ok (.ireturn, 1) := by decide +kernel
theorem dX5_polish_0 : decode cX5_polish 0 = .ok (.aload_n 0, 1) := by decide +kernel
theorem dX5_polish_1 : decode cX5_polish 1 = .ok (.iload_n 1, 1) := by decide +kernel
theorem dX5_polish_2 : decode cX5_polish 2 = .ok (.invokevirtual 73, 3) := by decide +kernel
theorem dX5_polish_5 : decode cX5_polish 5 = .ok (.ifCond .ne 6, 3) := by decide +kernel
theorem dX5_polish_8 : decode cX5_polish 8 = .ok (.bipush (-2), 2) := by decide +kernel
theorem dX5_polish_10 : decode cX5_polish 10 = .ok (.ireturn, 1) := by decide +kernel
theorem dX5_polish_11 : decode cX5_polish 11 = .ok (.aload_n 0, 1) := by decide +kernel
theorem dX5_polish_12 : decode cX5_polish 12 = .ok (.iload_n 1, 1) := by decide +kernel
theorem dX5_polish_13 : decode cX5_polish 13 = .ok (.invokevirtual 95, 3) := by decide +kernel
theorem dX5_polish_16 : decode cX5_polish 16 = .ok (.istore_n 2, 1) := by decide +kernel
theorem dX5_polish_17 : decode cX5_polish 17 = .ok (.iload_n 2, 1) := by decide +kernel
theorem dX5_polish_18 : decode cX5_polish 18 = .ok (.ifCond .eq 5, 3) := by decide +kernel
theorem dX5_polish_21 : decode cX5_polish 21 = .ok (.iload_n 2, 1) := by decide +kernel
theorem dX5_polish_22 : decode cX5_polish 22 = .ok (.ireturn, 1) := by decide +kernel
theorem dX5_polish_23 : decode cX5_polish 23 = .ok (.aload_n 0, 1) := by decide +kernel
theorem dX5_polish_24 : decode cX5_polish 24 = .ok (.getfield 16, 3) := by decide +kernel
theorem dX5_polish_27 : decode cX5_polish 27 = .ok (.iload_n 1, 1) := by decide +kernel
theorem dX5_polish_28 : decode cX5_polish 28 = .ok (.iaload, 1) := by decide +kernel
theorem dX5_polish_29 : decode cX5_polish 29 = .ok (.istore_n 3, 1) := by decide +kernel
theorem dX5_polish_30 : decode cX5_polish 30 = .ok (.aload_n 0, 1) := by decide +kernel
theorem dX5_polish_31 : decode cX5_polish 31 = .ok (.getfield 16, 3) := by decide +kernel
theorem dX5_polish_34 : decode cX5_polish 34 = .ok (.iload_n 1, 1) := by decide +kernel
theorem dX5_polish_35 : decode cX5_polish 35 = .ok (.iconst 0, 1) := by decide +kernel
theorem dX5_polish_36 : decode cX5_polish 36 = .ok (.iastore, 1) := by decide +kernel
theorem dX5_polish_37 : decode cX5_polish 37 = .ok (.aload_n 0, 1) := by decide +kernel
theorem dX5_polish_38 : decode cX5_polish 38 = .ok (.iload_n 3, 1) := by decide +kernel
theorem dX5_polish_39 : decode cX5_polish 39 = .ok (.invokevirtual 109, 3) := by decide +kernel
theorem dX5_polish_42 : decode cX5_polish 42 = .ok (.ireturn, 1) := by decide +kernel
theorem dX5_areThere_0 : decode cX5_areThere 0 = .ok (.iload_n 2, 1) := by decide +kernel
theorem dX5_areThere_1 : decode cX5_areThere 1 = .ok (.iconst 1, 1) := by decide +kernel
theorem dX5_areThere_2 : decode cX5_areThere 2 = .ok (.if_icmp .lt 35, 3) := by decide +kernel
theorem dX5_areThere_5 : decode cX5_areThere 5 = .ok (.iload_n 2, 1) := by decide +kernel
theorem dX5_areThere_6 : decode cX5_areThere 6 = .ok (.bipush 12, 2) := by decide +kernel
theorem dX5_areThere_8 : decode cX5_areThere 8 = .ok (.if_icmp .gt 29, 3) := by decide +kernel
theorem dX5_areThere_11 : decode cX5_areThere 11 = .ok (.iload_n 1, 1) := by decide +kernel
theorem dX5_areThere_12 : decode cX5_areThere 12 = .ok (.ifCond .lt 25, 3) := by decide +kernel
theorem dX5_areThere_15 : decode cX5_areThere 15 = .ok (.iload_n 1, 1) := by decide +kernel
theorem dX5_areThere_16 : decode cX5_areThere 16 = .ok (.aload_n 0, 1) := by decide +kernel
theorem dX5_areThere_17 : decode cX5_areThere 17 = .ok (.getfield 56, 3) := by decide +kernel
theorem dX5_areThere_20 : decode cX5_areThere 20 = .ok (.if_icmp .ge 17, 3) := by decide +kernel
theorem dX5_areThere_23 : decode cX5_areThere 23 = .ok (.iload_n 2, 1) := by decide +kernel
theorem dX5_areThere_24 : decode cX5_areThere 24 = .ok (.aload_n 0, 1) := by decide +kernel
theorem dX5_areThere_25 : decode cX5_areThere 25 = .ok (.getfield 56, 3) := by decide +kernel
theorem dX5_areThere_28 : decode cX5_areThere 28 = .ok (.iload_n 1, 1) := by decide +kernel
theorem dX5_areThere_29 : decode cX5_areThere 29 = .ok (.isub, 1) := by decide +kernel
theorem dX5_areThere_30 : decode cX5_areThere 30 = .ok (.if_icmp .gt 7, 3) := by decide +kernel
theorem dX5_areThere_33 : decode cX5_areThere 33 = .ok (.iconst 1, 1) := by decide +kernel
theorem dX5_areThere_34 : decode cX5_areThere 34 = .ok (.goto 4, 3) := by decide +kernel
theorem dX5_areThere_37 : decode cX5_areThere 37 = .ok (.iconst 0, 1) := by decide +kernel
theorem dX5_areThere_38 : decode cX5_areThere 38 = .ok (.ireturn, 1) := by decide +kernel
theorem dX5_rounds_0 : decode cX5_rounds 0 = .ok (.aload_n 0, 1) := by decide +kernel
theorem dX5_rounds_1 : decode cX5_rounds 1 = .ok (.iload_n 1, 1) := by decide +kernel
theorem dX5_rounds_2 : decode cX5_rounds 2 = .ok (.iload_n 2, 1) := by decide +kernel
theorem dX5_rounds_3 : decode cX5_rounds 3 = .ok (.invokevirtual 114, 3) := by decide +kernel
theorem dX5_rounds_6 : decode cX5_rounds 6 = .ok (.ifCond .eq 14, 3) := by decide +kernel
theorem dX5_rounds_9 : decode cX5_rounds 9 = .ok (.iload_n 3, 1) := by decide +kernel
theorem dX5_rounds_10 : decode cX5_rounds 10 = .ok (.iconst 1, 1) := by decide +kernel
theorem dX5_rounds_11 : decode cX5_rounds 11 = .ok (.if_icmp .lt 9, 3) := by decide +kernel
theorem dX5_rounds_14 : decode cX5_rounds 14 = .ok (.iload_n 3, 1) := by decide +kernel
theorem dX5_rounds_15 : decode cX5_rounds 15 = .ok (.bipush 12, 2) := by decide +kernel
theorem dX5_rounds_17 : decode cX5_rounds 17 = .ok (.if_icmp .le 6, 3) := by decide +kernel
theorem dX5_rounds_20 : decode cX5_rounds 20 = .ok (.bipush (-2), 2) := by decide +kernel
theorem dX5_rounds_22 : decode cX5_rounds 22 = .ok (.ireturn, 1) := by decide +kernel
theorem dX5_rounds_23 : decode cX5_rounds 23 = .ok (.iconst 0, 1) := by decide +kernel
theorem dX5_rounds_24 : decode cX5_rounds 24 = .ok (.istore 4, 2) := by decide +kernel
theorem dX5_rounds_26 : decode cX5_rounds 26 = .ok (.iload_n 1, 1) := by decide +kernel
theorem dX5_rounds_27 : decode cX5_rounds 27 = .ok (.istore 5, 2) := by decide +kernel
theorem dX5_rounds_29 : decode cX5_rounds 29 = .ok (.iload 5, 2) := by decide +kernel
theorem dX5_rounds_31 : decode cX5_rounds 31 = .ok (.iload_n 1, 1) := by decide +kernel
theorem dX5_rounds_32 : decode cX5_rounds 32 = .ok (.iload_n 2, 1) := by decide +kernel
theorem dX5_rounds_33 : decode cX5_rounds 33 = .ok (.iadd, 1) := by decide +kernel
theorem dX5_rounds_34 : decode cX5_rounds 34 = .ok (.if_icmp .ge 95, 3) := by decide +kernel
theorem dX5_rounds_37 : decode cX5_rounds 37 = .ok (.aload_n 0, 1) := by decide +kernel
theorem dX5_rounds_38 : decode cX5_rounds 38 = .ok (.iload 5, 2) := by decide +kernel
theorem dX5_rounds_40 : decode cX5_rounds 40 = .ok (.iconst 0, 1) := by decide +kernel
theorem dX5_rounds_41 : decode cX5_rounds 41 = .ok (.invokevirtual 99, 3) := by decide +kernel
theorem dX5_rounds_44 : decode cX5_rounds 44 = .ok (.istore 6, 2) := by decide +kernel
theorem dX5_rounds_46 : decode cX5_rounds 46 = .ok (.iload 6, 2) := by decide +kernel
theorem dX5_rounds_48 : decode cX5_rounds 48 = .ok (.bipush (-7), 2) := by decide +kernel
theorem dX5_rounds_50 : decode cX5_rounds 50 = .ok (.if_icmp .ne 6, 3) := by decide +kernel
theorem dX5_rounds_53 : decode cX5_rounds 53 = .ok (.bipush (-7), 2) := by decide +kernel
theorem dX5_rounds_55 : decode cX5_rounds 55 = .ok (.ireturn, 1) := by decide +kernel
theorem dX5_rounds_56 : decode cX5_rounds 56 = .ok (.iload 6, 2) := by decide +kernel
theorem dX5_rounds_58 : decode cX5_rounds 58 = .ok (.bipush (-4), 2) := by decide +kernel
theorem dX5_rounds_60 : decode cX5_rounds 60 = .ok (.if_icmp .ne 6, 3) := by decide +kernel
theorem dX5_rounds_63 : decode cX5_rounds 63 = .ok (.goto 60, 3) := by decide +kernel
theorem dX5_rounds_66 : decode cX5_rounds 66 = .ok (.aload_n 0, 1) := by decide +kernel
theorem dX5_rounds_67 : decode cX5_rounds 67 = .ok (.getfield 22, 3) := by decide +kernel
theorem dX5_rounds_70 : decode cX5_rounds 70 = .ok (.iload 5, 2) := by decide +kernel
theorem dX5_rounds_72 : decode cX5_rounds 72 = .ok (.iaload, 1) := by decide +kernel
theorem dX5_rounds_73 : decode cX5_rounds 73 = .ok (.ifCond .ne 13, 3) := by decide +kernel
theorem dX5_rounds_76 : decode cX5_rounds 76 = .ok (.aload_n 0, 1) := by decide +kernel
theorem dX5_rounds_77 : decode cX5_rounds 77 = .ok (.sipush 500, 3) := by decide +kernel
theorem dX5_rounds_80 : decode cX5_rounds 80 = .ok (.invokevirtual 83, 3) := by decide +kernel
theorem dX5_rounds_83 : decode cX5_rounds 83 = .ok (.goto 40, 3) := by decide +kernel
theorem dX5_rounds_86 : decode cX5_rounds 86 = .ok (.aload_n 0, 1) := by decide +kernel
theorem dX5_rounds_87 : decode cX5_rounds 87 = .ok (.getfield 22, 3) := by decide +kernel
theorem dX5_rounds_90 : decode cX5_rounds 90 = .ok (.iload 5, 2) := by decide +kernel
theorem dX5_rounds_92 : decode cX5_rounds 92 = .ok (.dup2, 1) := by decide +kernel
theorem dX5_rounds_93 : decode cX5_rounds 93 = .ok (.iaload, 1) := by decide +kernel
theorem dX5_rounds_94 : decode cX5_rounds 94 = .ok (.iconst 1, 1) := by decide +kernel
theorem dX5_rounds_95 : decode cX5_rounds 95 = .ok (.isub, 1) := by decide +kernel
theorem dX5_rounds_96 : decode cX5_rounds 96 = .ok (.iastore, 1) := by decide +kernel
theorem dX5_rounds_97 : decode cX5_rounds 97 = .ok (.iinc 4 1, 3) := by decide +kernel
theorem dX5_rounds_100 : decode cX5_rounds 100 = .ok (.iload 4, 2) := by decide +kernel
theorem dX5_rounds_102 : decode cX5_rounds 102 = .ok (.iload_n 3, 1) := by decide +kernel
theorem dX5_rounds_103 : decode cX5_rounds 103 = .ok (.if_icmp .ne 13, 3) := by decide +kernel
theorem dX5_rounds_106 : decode cX5_rounds 106 = .ok (.aload_n 0, 1) := by decide +kernel
theorem dX5_rounds_107 : decode cX5_rounds 107 = .ok (.sipush 400, 3) := by decide +kernel
theorem dX5_rounds_110 : decode cX5_rounds 110 = .ok (.invokevirtual 83, 3) := by decide +kernel
theorem dX5_rounds_113 : decode cX5_rounds 113 = .ok (.iload 4, 2) := by decide +kernel
theorem dX5_rounds_115 : decode cX5_rounds 115 = .ok (.ireturn, 1) := by decide +kernel
theorem dX5_rounds_116 : decode cX5_rounds 116 = .ok (.aload_n 0, 1) := by decide +kernel
theorem dX5_rounds_117 : decode cX5_rounds 117 = .ok (.sipush 200, 3) := by decide +kernel
theorem dX5_rounds_120 : decode cX5_rounds 120 = .ok (.invokevirtual 83, 3) := by decide +kernel
theorem dX5_rounds_123 : decode cX5_rounds 123 = .ok (.iinc 5 1, 3) := by decide +kernel
theorem dX5_rounds_126 : decode cX5_rounds 126 = .ok (.goto (-97), 3) := by decide +kernel
theorem dX5_rounds_129 : decode cX5_rounds 129 = .ok (.iload 4, 2) := by decide +kernel
theorem dX5_rounds_131 : decode cX5_rounds 131 = .ok (.ireturn, 1) := by decide +kernel
theorem dX5_sweep_0 : decode cX5_sweep 0 = .ok (.aload_n 0, 1) := by decide +kernel
theorem dX5_sweep_1 : decode cX5_sweep 1 = .ok (.iload_n 1, 1) := by decide +kernel
theorem dX5_sweep_2 : decode cX5_sweep 2 = .ok (.iload_n 2, 1) := by decide +kernel
theorem dX5_sweep_3 : decode cX5_sweep 3 = .ok (.invokevirtual 114, 3) := by decide +kernel
theorem dX5_sweep_6 : decode cX5_sweep 6 = .ok (.ifCond .eq 14, 3) := by decide +kernel
theorem dX5_sweep_9 : decode cX5_sweep 9 = .ok (.iload_n 3, 1) := by decide +kernel
theorem dX5_sweep_10 : decode cX5_sweep 10 = .ok (.iconst 1, 1) := by decide +kernel
theorem dX5_sweep_11 : decode cX5_sweep 11 = .ok (.if_icmp .lt 9, 3) := by decide +kernel
theorem dX5_sweep_14 : decode cX5_sweep 14 = .ok (.iload_n 3, 1) := by decide +kernel
theorem dX5_sweep_15 : decode cX5_sweep 15 = .ok (.ldc 59, 2) := by decide +kernel
theorem dX5_sweep_17 : decode cX5_sweep 17 = .ok (.if_icmp .le 6, 3) := by decide +kernel
theorem dX5_sweep_20 : decode cX5_sweep 20 = .ok (.bipush (-2), 2) := by decide +kernel
theorem dX5_sweep_22 : decode cX5_sweep 22 = .ok (.ireturn, 1) := by decide +kernel
theorem dX5_sweep_23 : decode cX5_sweep 23 = .ok (.iload_n 3, 1) := by decide +kernel
theorem dX5_sweep_24 : decode cX5_sweep 24 = .ok (.istore 4, 2) := by decide +kernel
theorem dX5_sweep_26 : decode cX5_sweep 26 = .ok (.iload_n 1, 1) := by decide +kernel
theorem dX5_sweep_27 : decode cX5_sweep 27 = .ok (.istore 5, 2) := by decide +kernel
theorem dX5_sweep_29 : decode cX5_sweep 29 = .ok (.iload 5, 2) := by decide +kernel
theorem dX5_sweep_31 : decode cX5_sweep 31 = .ok (.iload_n 1, 1) := by decide +kernel
theorem dX5_sweep_32 : decode cX5_sweep 32 = .ok (.iload_n 2, 1) := by decide +kernel
theorem dX5_sweep_33 : decode cX5_sweep 33 = .ok (.iadd, 1) := by decide +kernel
theorem dX5_sweep_34 : decode cX5_sweep 34 = .ok (.if_icmp .ge 140, 3) := by decide +kernel
theorem dX5_sweep_37 : decode cX5_sweep 37 = .ok (.aload_n 0, 1) := by decide +kernel
theorem dX5_sweep_38 : decode cX5_sweep 38 = .ok (.iload 5, 2) := by decide +kernel
theorem dX5_sweep_40 : decode cX5_sweep 40 = .ok (.iconst 0, 1) := by decide +kernel
theorem dX5_sweep_41 : decode cX5_sweep 41 = .ok (.invokevirtual 99, 3) := by decide +kernel
theorem dX5_sweep_44 : decode cX5_sweep 44 = .ok (.istore 6, 2) := by decide +kernel
theorem dX5_sweep_46 : decode cX5_sweep 46 = .ok (.iload 6, 2) := by decide +kernel
theorem dX5_sweep_48 : decode cX5_sweep 48 = .ok (.bipush (-7), 2) := by decide +kernel
theorem dX5_sweep_50 : decode cX5_sweep 50 = .ok (.if_icmp .ne 6, 3) := by decide +kernel
theorem dX5_sweep_53 : decode cX5_sweep 53 = .ok (.bipush (-7), 2) := by decide +kernel
theorem dX5_sweep_55 : decode cX5_sweep 55 = .ok (.ireturn, 1) := by decide +kernel
theorem dX5_sweep_56 : decode cX5_sweep 56 = .ok (.iload 6, 2) := by decide +kernel
theorem dX5_sweep_58 : decode cX5_sweep 58 = .ok (.bipush (-4), 2) := by decide +kernel
theorem dX5_sweep_60 : decode cX5_sweep 60 = .ok (.if_icmp .ne 6, 3) := by decide +kernel
theorem dX5_sweep_63 : decode cX5_sweep 63 = .ok (.goto 105, 3) := by decide +kernel
theorem dX5_sweep_66 : decode cX5_sweep 66 = .ok (.aload_n 0, 1) := by decide +kernel
theorem dX5_sweep_67 : decode cX5_sweep 67 = .ok (.iload 5, 2) := by decide +kernel
theorem dX5_sweep_69 : decode cX5_sweep 69 = .ok (.iconst 1, 1) := by decide +kernel
theorem dX5_sweep_70 : decode cX5_sweep 70 = .ok (.invokevirtual 99, 3) := by decide +kernel
theorem dX5_sweep_73 : decode cX5_sweep 73 = .ok (.istore 6, 2) := by decide +kernel
theorem dX5_sweep_75 : decode cX5_sweep 75 = .ok (.iload 6, 2) := by decide +kernel
theorem dX5_sweep_77 : decode cX5_sweep 77 = .ok (.bipush (-7), 2) := by decide +kernel
theorem dX5_sweep_79 : decode cX5_sweep 79 = .ok (.if_icmp .ne 6, 3) := by decide +kernel
theorem dX5_sweep_82 : decode cX5_sweep 82 = .ok (.bipush (-7), 2) := by decide +kernel
theorem dX5_sweep_84 : decode cX5_sweep 84 = .ok (.ireturn, 1) := by decide +kernel
theorem dX5_sweep_85 : decode cX5_sweep 85 = .ok (.iload 6, 2) := by decide +kernel
theorem dX5_sweep_87 : decode cX5_sweep 87 = .ok (.bipush (-4), 2) := by decide +kernel
theorem dX5_sweep_89 : decode cX5_sweep 89 = .ok (.if_icmp .ne 13, 3) := by decide +kernel
theorem dX5_sweep_92 : decode cX5_sweep 92 = .ok (.aload_n 0, 1) := by decide +kernel
theorem dX5_sweep_93 : decode cX5_sweep 93 = .ok (.sipush 500, 3) := by decide +kernel
theorem dX5_sweep_96 : decode cX5_sweep 96 = .ok (.invokevirtual 83, 3) := by decide +kernel
theorem dX5_sweep_99 : decode cX5_sweep 99 = .ok (.goto 69, 3) := by decide +kernel
theorem dX5_sweep_102 : decode cX5_sweep 102 = .ok (.aload_n 0, 1) := by decide +kernel
theorem dX5_sweep_103 : decode cX5_sweep 103 = .ok (.getfield 22, 3) := by decide +kernel
theorem dX5_sweep_106 : decode cX5_sweep 106 = .ok (.iload 5, 2) := by decide +kernel
theorem dX5_sweep_108 : decode cX5_sweep 108 = .ok (.iaload, 1) := by decide +kernel
theorem dX5_sweep_109 : decode cX5_sweep 109 = .ok (.iload 4, 2) := by decide +kernel
theorem dX5_sweep_111 : decode cX5_sweep 111 = .ok (.if_icmp .ge 13, 3) := by decide +kernel
theorem dX5_sweep_114 : decode cX5_sweep 114 = .ok (.aload_n 0, 1) := by decide +kernel
theorem dX5_sweep_115 : decode cX5_sweep 115 = .ok (.getfield 22, 3) := by decide +kernel
theorem dX5_sweep_118 : decode cX5_sweep 118 = .ok (.iload 5, 2) := by decide +kernel
theorem dX5_sweep_120 : decode cX5_sweep 120 = .ok (.iaload, 1) := by decide +kernel
theorem dX5_sweep_121 : decode cX5_sweep 121 = .ok (.goto 5, 3) := by decide +kernel
theorem dX5_sweep_124 : decode cX5_sweep 124 = .ok (.iload 4, 2) := by decide +kernel
theorem dX5_sweep_126 : decode cX5_sweep 126 = .ok (.istore 7, 2) := by decide +kernel
theorem dX5_sweep_128 : decode cX5_sweep 128 = .ok (.aload_n 0, 1) := by decide +kernel
theorem dX5_sweep_129 : decode cX5_sweep 129 = .ok (.getfield 22, 3) := by decide +kernel
theorem dX5_sweep_132 : decode cX5_sweep 132 = .ok (.iload 5, 2) := by decide +kernel
theorem dX5_sweep_134 : decode cX5_sweep 134 = .ok (.dup2, 1) := by decide +kernel
theorem dX5_sweep_135 : decode cX5_sweep 135 = .ok (.iaload, 1) := by decide +kernel
theorem dX5_sweep_136 : decode cX5_sweep 136 = .ok (.iload 7, 2) := by decide +kernel
theorem dX5_sweep_138 : decode cX5_sweep 138 = .ok (.isub, 1) := by decide +kernel
theorem dX5_sweep_139 : decode cX5_sweep 139 = .ok (.iastore, 1) := by decide +kernel
theorem dX5_sweep_140 : decode cX5_sweep 140 = .ok (.iload 4, 2) := by decide +kernel
theorem dX5_sweep_142 : decode cX5_sweep 142 = .ok (.iload 7, 2) := by decide +kernel
theorem dX5_sweep_144 : decode cX5_sweep 144 = .ok (.isub, 1) := by decide +kernel
theorem dX5_sweep_145 : decode cX5_sweep 145 = .ok (.istore 4, 2) := by decide +kernel
theorem dX5_sweep_147 : decode cX5_sweep 147 = .ok (.iload 4, 2) := by decide +kernel
theorem dX5_sweep_149 : decode cX5_sweep 149 = .ok (.ifCond .ne 12, 3) := by decide +kernel
theorem dX5_sweep_152 : decode cX5_sweep 152 = .ok (.aload_n 0, 1) := by decide +kernel
theorem dX5_sweep_153 : decode cX5_sweep 153 = .ok (.sipush 400, 3) := by decide +kernel
theorem dX5_sweep_156 : decode cX5_sweep 156 = .ok (.invokevirtual 86, 3) := by decide +kernel
theorem dX5_sweep_159 : decode cX5_sweep 159 = .ok (.iload_n 3, 1) := by decide +kernel
theorem dX5_sweep_160 : decode cX5_sweep 160 = .ok (.ireturn, 1) := by decide +kernel
theorem dX5_sweep_161 : decode cX5_sweep 161 = .ok (.aload_n 0, 1) := by decide +kernel
theorem dX5_sweep_162 : decode cX5_sweep 162 = .ok (.sipush 200, 3) := by decide +kernel
theorem dX5_sweep_165 : decode cX5_sweep 165 = .ok (.invokevirtual 86, 3) := by decide +kernel
theorem dX5_sweep_168 : decode cX5_sweep 168 = .ok (.iinc 5 1, 3) := by decide +kernel
theorem dX5_sweep_171 : decode cX5_sweep 171 = .ok (.goto (-142), 3) := by decide +kernel
theorem dX5_sweep_174 : decode cX5_sweep 174 = .ok (.iload_n 3, 1) := by decide +kernel
theorem dX5_sweep_175 : decode cX5_sweep 175 = .ok (.iload 4, 2) := by decide +kernel
theorem dX5_sweep_177 : decode cX5_sweep 177 = .ok (.isub, 1) := by decide +kernel
theorem dX5_sweep_178 : decode cX5_sweep 178 = .ok (.ireturn, 1) := by decide +kernel
theorem dX5_walk_0 : decode cX5_walk 0 = .ok (.aload_n 0, 1) := by decide +kernel
theorem dX5_walk_1 : decode cX5_walk 1 = .ok (.iload_n 1, 1) := by decide +kernel
theorem dX5_walk_2 : decode cX5_walk 2 = .ok (.invokevirtual 67, 3) := by decide +kernel
theorem dX5_walk_5 : decode cX5_walk 5 = .ok (.ifCond .eq 18, 3) := by decide +kernel
theorem dX5_walk_8 : decode cX5_walk 8 = .ok (.iload_n 2, 1) := by decide +kernel
theorem dX5_walk_9 : decode cX5_walk 9 = .ok (.iconst 1, 1) := by decide +kernel
theorem dX5_walk_10 : decode cX5_walk 10 = .ok (.if_icmp .lt 13, 3) := by decide +kernel
theorem dX5_walk_13 : decode cX5_walk 13 = .ok (.iload_n 2, 1) := by decide +kernel
theorem dX5_walk_14 : decode cX5_walk 14 = .ok (.bipush 60, 2) := by decide +kernel
theorem dX5_walk_16 : decode cX5_walk 16 = .ok (.if_icmp .gt 7, 3) := by decide +kernel
theorem dX5_walk_19 : decode cX5_walk 19 = .ok (.iload_n 3, 1) := by decide +kernel
theorem dX5_walk_20 : decode cX5_walk 20 = .ok (.ifCond .ge 6, 3) := by decide +kernel
theorem dX5_walk_23 : decode cX5_walk 23 = .ok (.bipush (-2), 2) := by decide +kernel
theorem dX5_walk_25 : decode cX5_walk 25 = .ok (.ireturn, 1) := by decide +kernel
theorem dX5_walk_26 : decode cX5_walk 26 = .ok (.iconst 0, 1) := by decide +kernel
theorem dX5_walk_27 : decode cX5_walk 27 = .ok (.istore 4, 2) := by decide +kernel
theorem dX5_walk_29 : decode cX5_walk 29 = .ok (.iload_n 1, 1) := by decide +kernel
theorem dX5_walk_30 : decode cX5_walk 30 = .ok (.istore 5, 2) := by decide +kernel
theorem dX5_walk_32 : decode cX5_walk 32 = .ok (.iconst 1, 1) := by decide +kernel
theorem dX5_walk_33 : decode cX5_walk 33 = .ok (.istore 6, 2) := by decide +kernel
theorem dX5_walk_35 : decode cX5_walk 35 = .ok (.iload 5, 2) := by decide +kernel
theorem dX5_walk_37 : decode cX5_walk 37 = .ok (.iconst (-1), 1) := by decide +kernel
theorem dX5_walk_38 : decode cX5_walk 38 = .ok (.if_icmp .eq 86, 3) := by decide +kernel
theorem dX5_walk_41 : decode cX5_walk 41 = .ok (.aload_n 0, 1) := by decide +kernel
theorem dX5_walk_42 : decode cX5_walk 42 = .ok (.iload 5, 2) := by decide +kernel
theorem dX5_walk_44 : decode cX5_walk 44 = .ok (.iconst 0, 1) := by decide +kernel
theorem dX5_walk_45 : decode cX5_walk 45 = .ok (.invokevirtual 99, 3) := by decide +kernel
theorem dX5_walk_48 : decode cX5_walk 48 = .ok (.istore 7, 2) := by decide +kernel
theorem dX5_walk_50 : decode cX5_walk 50 = .ok (.iload 7, 2) := by decide +kernel
theorem dX5_walk_52 : decode cX5_walk 52 = .ok (.bipush (-7), 2) := by decide +kernel
theorem dX5_walk_54 : decode cX5_walk 54 = .ok (.if_icmp .ne 6, 3) := by decide +kernel
theorem dX5_walk_57 : decode cX5_walk 57 = .ok (.bipush (-7), 2) := by decide +kernel
theorem dX5_walk_59 : decode cX5_walk 59 = .ok (.ireturn, 1) := by decide +kernel
theorem dX5_walk_60 : decode cX5_walk 60 = .ok (.iload 7, 2) := by decide +kernel
theorem dX5_walk_62 : decode cX5_walk 62 = .ok (.bipush (-4), 2) := by decide +kernel
theorem dX5_walk_64 : decode cX5_walk 64 = .ok (.if_icmp .ne 10, 3) := by decide +kernel
theorem dX5_walk_67 : decode cX5_walk 67 = .ok (.aload_n 0, 1) := by decide +kernel
theorem dX5_walk_68 : decode cX5_walk 68 = .ok (.iload 4, 2) := by decide +kernel
theorem dX5_walk_70 : decode cX5_walk 70 = .ok (.invokevirtual 109, 3) := by decide +kernel
theorem dX5_walk_73 : decode cX5_walk 73 = .ok (.ireturn, 1) := by decide +kernel
theorem dX5_walk_74 : decode cX5_walk 74 = .ok (.iload 4, 2) := by decide +kernel
theorem dX5_walk_76 : decode cX5_walk 76 = .ok (.aload_n 0, 1) := by decide +kernel
theorem dX5_walk_77 : decode cX5_walk 77 = .ok (.getfield 22, 3) := by decide +kernel
theorem dX5_walk_80 : decode cX5_walk 80 = .ok (.iload 5, 2) := by decide +kernel
theorem dX5_walk_82 : decode cX5_walk 82 = .ok (.iaload, 1) := by decide +kernel
theorem dX5_walk_83 : decode cX5_walk 83 = .ok (.iadd, 1) := by decide +kernel
theorem dX5_walk_84 : decode cX5_walk 84 = .ok (.istore 4, 2) := by decide +kernel
theorem dX5_walk_86 : decode cX5_walk 86 = .ok (.iload 4, 2) := by decide +kernel
theorem dX5_walk_88 : decode cX5_walk 88 = .ok (.iload_n 3, 1) := by decide +kernel
theorem dX5_walk_89 : decode cX5_walk 89 = .ok (.if_icmp .le 10, 3) := by decide +kernel
theorem dX5_walk_92 : decode cX5_walk 92 = .ok (.aload_n 0, 1) := by decide +kernel
theorem dX5_walk_93 : decode cX5_walk 93 = .ok (.bipush (-6), 2) := by decide +kernel
theorem dX5_walk_95 : decode cX5_walk 95 = .ok (.invokevirtual 112, 3) := by decide +kernel
theorem dX5_walk_98 : decode cX5_walk 98 = .ok (.ireturn, 1) := by decide +kernel
theorem dX5_walk_99 : decode cX5_walk 99 = .ok (.iload 6, 2) := by decide +kernel
theorem dX5_walk_101 : decode cX5_walk 101 = .ok (.iload_n 2, 1) := by decide +kernel
theorem dX5_walk_102 : decode cX5_walk 102 = .ok (.if_icmp .ne 7, 3) := by decide +kernel
theorem dX5_walk_105 : decode cX5_walk 105 = .ok (.iconst (-1), 1) := by decide +kernel
theorem dX5_walk_106 : decode cX5_walk 106 = .ok (.goto 10, 3) := by decide +kernel
theorem dX5_walk_109 : decode cX5_walk 109 = .ok (.aload_n 0, 1) := by decide +kernel
theorem dX5_walk_110 : decode cX5_walk 110 = .ok (.getfield 28, 3) := by decide +kernel
theorem dX5_walk_113 : decode cX5_walk 113 = .ok (.iload 5, 2) := by decide +kernel
theorem dX5_walk_115 : decode cX5_walk 115 = .ok (.iaload, 1) := by decide +kernel
theorem dX5_walk_116 : decode cX5_walk 116 = .ok (.istore 5, 2) := by decide +kernel
theorem dX5_walk_118 : decode cX5_walk 118 = .ok (.iinc 6 1, 3) := by decide +kernel
theorem dX5_walk_121 : decode cX5_walk 121 = .ok (.goto (-86), 3) := by decide +kernel
theorem dX5_walk_124 : decode cX5_walk 124 = .ok (.aload_n 0, 1) := by decide +kernel
theorem dX5_walk_125 : decode cX5_walk 125 = .ok (.iload 4, 2) := by decide +kernel
theorem dX5_walk_127 : decode cX5_walk 127 = .ok (.invokevirtual 109, 3) := by decide +kernel
theorem dX5_walk_130 : decode cX5_walk 130 = .ok (.ireturn, 1) := by decide +kernel
theorem dX5_isOrder_0 : decode cX5_isOrder 0 = .ok (.iload_n 1, 1) := by decide +kernel
theorem dX5_isOrder_1 : decode cX5_isOrder 1 = .ok (.iconst 4, 1) := by decide +kernel
theorem dX5_isOrder_2 : decode cX5_isOrder 2 = .ok (.if_icmp .ne 5, 3) := by decide +kernel
theorem dX5_isOrder_5 : decode cX5_isOrder 5 = .ok (.iconst 1, 1) := by decide +kernel
theorem dX5_isOrder_6 : decode cX5_isOrder 6 = .ok (.ireturn, 1) := by decide +kernel
theorem dX5_isOrder_7 : decode cX5_isOrder 7 = .ok (.iload_n 1, 1) := by decide +kernel
theorem dX5_isOrder_8 : decode cX5_isOrder 8 = .ok (.ifCond .lt 16, 3) := by decide +kernel
theorem dX5_isOrder_11 : decode cX5_isOrder 11 = .ok (.iload_n 1, 1) := by decide +kernel
theorem dX5_isOrder_12 : decode cX5_isOrder 12 = .ok (.iconst 4, 1) := by decide +kernel
theorem dX5_isOrder_13 : decode cX5_isOrder 13 = .ok (.if_icmp .gt 11, 3) := by decide +kernel
theorem dX5_isOrder_16 : decode cX5_isOrder 16 = .ok (.aload_n 0, 1) := by decide +kernel
theorem dX5_isOrder_17 : decode cX5_isOrder 17 = .ok (.iload_n 2, 1) := by decide +kernel
theorem dX5_isOrder_18 : decode cX5_isOrder 18 = .ok (.invokevirtual 67, 3) := by decide +kernel
theorem dX5_isOrder_21 : decode cX5_isOrder 21 = .ok (.ifCond .ne 5, 3) := by decide +kernel
theorem dX5_isOrder_24 : decode cX5_isOrder 24 = .ok (.iconst 0, 1) := by decide +kernel
theorem dX5_isOrder_25 : decode cX5_isOrder 25 = .ok (.ireturn, 1) := by decide +kernel
theorem dX5_isOrder_26 : decode cX5_isOrder 26 = .ok (.iload_n 1, 1) := by decide +kernel
theorem dX5_isOrder_27 : decode cX5_isOrder 27 = .ok (.iconst 3, 1) := by decide +kernel
theorem dX5_isOrder_28 : decode cX5_isOrder 28 = .ok (.if_icmp .ne 5, 3) := by decide +kernel
theorem dX5_isOrder_31 : decode cX5_isOrder 31 = .ok (.iconst 1, 1) := by decide +kernel
theorem dX5_isOrder_32 : decode cX5_isOrder 32 = .ok (.ireturn, 1) := by decide +kernel
theorem dX5_isOrder_33 : decode cX5_isOrder 33 = .ok (.iload 4, 2) := by decide +kernel
theorem dX5_isOrder_35 : decode cX5_isOrder 35 = .ok (.invokestatic 63, 3) := by decide +kernel
theorem dX5_isOrder_38 : decode cX5_isOrder 38 = .ok (.ifCond .eq 20, 3) := by decide +kernel
theorem dX5_isOrder_41 : decode cX5_isOrder 41 = .ok (.iload_n 1, 1) := by decide +kernel
theorem dX5_isOrder_42 : decode cX5_isOrder 42 = .ok (.iconst 2, 1) := by decide +kernel
theorem dX5_isOrder_43 : decode cX5_isOrder 43 = .ok (.if_icmp .ne 11, 3) := by decide +kernel
theorem dX5_isOrder_46 : decode cX5_isOrder 46 = .ok (.aload_n 0, 1) := by decide +kernel
theorem dX5_isOrder_47 : decode cX5_isOrder 47 = .ok (.iload_n 3, 1) := by decide +kernel
theorem dX5_isOrder_48 : decode cX5_isOrder 48 = .ok (.invokevirtual 67, 3) := by decide +kernel
theorem dX5_isOrder_51 : decode cX5_isOrder 51 = .ok (.ifCond .eq 7, 3) := by decide +kernel
theorem dX5_isOrder_54 : decode cX5_isOrder 54 = .ok (.iconst 1, 1) := by decide +kernel
theorem dX5_isOrder_55 : decode cX5_isOrder 55 = .ok (.goto 4, 3) := by decide +kernel
theorem dX5_isOrder_58 : decode cX5_isOrder 58 = .ok (.iconst 0, 1) := by decide +kernel
theorem dX5_isOrder_59 : decode cX5_isOrder 59 = .ok (.ireturn, 1) := by decide +kernel
theorem dX5_order_0 : decode cX5_order 0 = .ok (.aload_n 0, 1) := by decide +kernel
theorem dX5_order_1 : decode cX5_order 1 = .ok (.iload_n 1, 1) := by decide +kernel
theorem dX5_order_2 : decode cX5_order 2 = .ok (.iload_n 2, 1) := by decide +kernel
theorem dX5_order_3 : decode cX5_order 3 = .ok (.iload_n 3, 1) := by decide +kernel
theorem dX5_order_4 : decode cX5_order 4 = .ok (.iload 4, 2) := by decide +kernel
theorem dX5_order_6 : decode cX5_order 6 = .ok (.invokevirtual 118, 3) := by decide +kernel
theorem dX5_order_9 : decode cX5_order 9 = .ok (.ifCond .ne 6, 3) := by decide +kernel
theorem dX5_order_12 : decode cX5_order 12 = .ok (.bipush (-2), 2) := by decide +kernel
theorem dX5_order_14 : decode cX5_order 14 = .ok (.ireturn, 1) := by decide +kernel
theorem dX5_order_15 : decode cX5_order 15 = .ok (.aload_n 0, 1) := by decide +kernel
theorem dX5_order_16 : decode cX5_order 16 = .ok (.getfield 122, 3) := by decide +kernel
theorem dX5_order_19 : decode cX5_order 19 = .ok (.bipush 32, 2) := by decide +kernel
theorem dX5_order_21 : decode cX5_order 21 = .ok (.if_icmp .ne 6, 3) := by decide +kernel
theorem dX5_order_24 : decode cX5_order 24 = .ok (.bipush (-3), 2) := by decide +kernel
theorem dX5_order_26 : decode cX5_order 26 = .ok (.ireturn, 1) := by decide +kernel
theorem dX5_order_27 : decode cX5_order 27 = .ok (.aload_n 0, 1) := by decide +kernel
theorem dX5_order_28 : decode cX5_order 28 = .ok (.getfield 40, 3) := by decide +kernel
theorem dX5_order_31 : decode cX5_order 31 = .ok (.aload_n 0, 1) := by decide +kernel
theorem dX5_order_32 : decode cX5_order 32 = .ok (.getfield 122, 3) := by decide +kernel
theorem dX5_order_35 : decode cX5_order 35 = .ok (.iload_n 1, 1) := by decide +kernel
theorem dX5_order_36 : decode cX5_order 36 = .ok (.iastore, 1) := by decide +kernel
theorem dX5_order_37 : decode cX5_order 37 = .ok (.aload_n 0, 1) := by decide +kernel
theorem dX5_order_38 : decode cX5_order 38 = .ok (.getfield 43, 3) := by decide +kernel
theorem dX5_order_41 : decode cX5_order 41 = .ok (.aload_n 0, 1) := by decide +kernel
theorem dX5_order_42 : decode cX5_order 42 = .ok (.getfield 122, 3) := by decide +kernel
theorem dX5_order_45 : decode cX5_order 45 = .ok (.iload_n 2, 1) := by decide +kernel
theorem dX5_order_46 : decode cX5_order 46 = .ok (.iastore, 1) := by decide +kernel
theorem dX5_order_47 : decode cX5_order 47 = .ok (.aload_n 0, 1) := by decide +kernel
theorem dX5_order_48 : decode cX5_order 48 = .ok (.getfield 46, 3) := by decide +kernel
theorem dX5_order_51 : decode cX5_order 51 = .ok (.aload_n 0, 1) := by decide +kernel
theorem dX5_order_52 : decode cX5_order 52 = .ok (.getfield 122, 3) := by decide +kernel
theorem dX5_order_55 : decode cX5_order 55 = .ok (.iload_n 3, 1) := by decide +kernel
theorem dX5_order_56 : decode cX5_order 56 = .ok (.iastore, 1) := by decide +kernel
theorem dX5_order_57 : decode cX5_order 57 = .ok (.aload_n 0, 1) := by decide +kernel
theorem dX5_order_58 : decode cX5_order 58 = .ok (.getfield 49, 3) := by decide +kernel
theorem dX5_order_61 : decode cX5_order 61 = .ok (.aload_n 0, 1) := by decide +kernel
theorem dX5_order_62 : decode cX5_order 62 = .ok (.getfield 122, 3) := by decide +kernel
theorem dX5_order_65 : decode cX5_order 65 = .ok (.iload 4, 2) := by decide +kernel
theorem dX5_order_67 : decode cX5_order 67 = .ok (.iastore, 1) := by decide +kernel
theorem dX5_order_68 : decode cX5_order 68 = .ok (.aload_n 0, 1) := by decide +kernel
theorem dX5_order_69 : decode cX5_order 69 = .ok (.dup, 1) := by decide +kernel
theorem dX5_order_70 : decode cX5_order 70 = .ok (.getfield 122, 3) := by decide +kernel
theorem dX5_order_73 : decode cX5_order 73 = .ok (.iconst 1, 1) := by decide +kernel
theorem dX5_order_74 : decode cX5_order 74 = .ok (.iadd, 1) := by decide +kernel
theorem dX5_order_75 : decode cX5_order 75 = .ok (.putfield 122, 3) := by decide +kernel
theorem dX5_order_78 : decode cX5_order 78 = .ok (.aload_n 0, 1) := by decide +kernel
theorem dX5_order_79 : decode cX5_order 79 = .ok (.getfield 122, 3) := by decide +kernel
theorem dX5_order_82 : decode cX5_order 82 = .ok (.ireturn, 1) := by decide +kernel
theorem dX5_carriedOut_0 : decode cX5_carriedOut 0 = .ok (.aload_n 0, 1) := by decide +kernel
theorem dX5_carriedOut_1 : decode cX5_carriedOut 1 = .ok (.getfield 40, 3) := by decide +kernel
theorem dX5_carriedOut_4 : decode cX5_carriedOut 4 = .ok (.iload_n 1, 1) := by decide +kernel
theorem dX5_carriedOut_5 : decode cX5_carriedOut 5 = .ok (.iaload, 1) := by decide +kernel
theorem dX5_carriedOut_6 : decode cX5_carriedOut 6 = .ok (.ifCond .ne 20, 3) := by decide +kernel
theorem dX5_carriedOut_9 : decode cX5_carriedOut 9 = .ok (.aload_n 0, 1) := by decide +kernel
theorem dX5_carriedOut_10 : decode cX5_carriedOut 10 = .ok (.aload_n 0, 1) := by decide +kernel
theorem dX5_carriedOut_11 : decode cX5_carriedOut 11 = .ok (.getfield 43, 3) := by decide +kernel
theorem dX5_carriedOut_14 : decode cX5_carriedOut 14 = .ok (.iload_n 1, 1) := by decide +kernel
theorem dX5_carriedOut_15 : decode cX5_carriedOut 15 = .ok (.iaload, 1) := by decide +kernel
theorem dX5_carriedOut_16 : decode cX5_carriedOut 16 = .ok (.aload_n 0, 1) := by decide +kernel
theorem dX5_carriedOut_17 : decode cX5_carriedOut 17 = .ok (.getfield 49, 3) := by decide +kernel
theorem dX5_carriedOut_20 : decode cX5_carriedOut 20 = .ok (.iload_n 1, 1) := by decide +kernel
theorem dX5_carriedOut_21 : decode cX5_carriedOut 21 = .ok (.iaload, 1) := by decide +kernel
theorem dX5_carriedOut_22 : decode cX5_carriedOut 22 = .ok (.invokevirtual 125, 3) := by decide +kernel
theorem dX5_carriedOut_25 : decode cX5_carriedOut 25 = .ok (.ireturn, 1) := by decide +kernel
theorem dX5_carriedOut_26 : decode cX5_carriedOut 26 = .ok (.aload_n 0, 1) := by decide +kernel
theorem dX5_carriedOut_27 : decode cX5_carriedOut 27 = .ok (.getfield 40, 3) := by decide +kernel
theorem dX5_carriedOut_30 : decode cX5_carriedOut 30 = .ok (.iload_n 1, 1) := by decide +kernel
theorem dX5_carriedOut_31 : decode cX5_carriedOut 31 = .ok (.iaload, 1) := by decide +kernel
theorem dX5_carriedOut_32 : decode cX5_carriedOut 32 = .ok (.iconst 1, 1) := by decide +kernel
theorem dX5_carriedOut_33 : decode cX5_carriedOut 33 = .ok (.if_icmp .ne 20, 3) := by decide +kernel
theorem dX5_carriedOut_36 : decode cX5_carriedOut 36 = .ok (.aload_n 0, 1) := by decide +kernel
theorem dX5_carriedOut_37 : decode cX5_carriedOut 37 = .ok (.aload_n 0, 1) := by decide +kernel
theorem dX5_carriedOut_38 : decode cX5_carriedOut 38 = .ok (.getfield 43, 3) := by decide +kernel
theorem dX5_carriedOut_41 : decode cX5_carriedOut 41 = .ok (.iload_n 1, 1) := by decide +kernel
theorem dX5_carriedOut_42 : decode cX5_carriedOut 42 = .ok (.iaload, 1) := by decide +kernel
theorem dX5_carriedOut_43 : decode cX5_carriedOut 43 = .ok (.aload_n 0, 1) := by decide +kernel
theorem dX5_carriedOut_44 : decode cX5_carriedOut 44 = .ok (.getfield 49, 3) := by decide +kernel
theorem dX5_carriedOut_47 : decode cX5_carriedOut 47 = .ok (.iload_n 1, 1) := by decide +kernel
theorem dX5_carriedOut_48 : decode cX5_carriedOut 48 = .ok (.iaload, 1) := by decide +kernel
theorem dX5_carriedOut_49 : decode cX5_carriedOut 49 = .ok (.invokevirtual 128, 3) := by decide +kernel
theorem dX5_carriedOut_52 : decode cX5_carriedOut 52 = .ok (.ireturn, 1) := by decide +kernel
theorem dX5_carriedOut_53 : decode cX5_carriedOut 53 = .ok (.aload_n 0, 1) := by decide +kernel
theorem dX5_carriedOut_54 : decode cX5_carriedOut 54 = .ok (.getfield 40, 3) := by decide +kernel
theorem dX5_carriedOut_57 : decode cX5_carriedOut 57 = .ok (.iload_n 1, 1) := by decide +kernel
theorem dX5_carriedOut_58 : decode cX5_carriedOut 58 = .ok (.iaload, 1) := by decide +kernel
theorem dX5_carriedOut_59 : decode cX5_carriedOut 59 = .ok (.iconst 2, 1) := by decide +kernel
theorem dX5_carriedOut_60 : decode cX5_carriedOut 60 = .ok (.if_icmp .ne 26, 3) := by decide +kernel
theorem dX5_carriedOut_63 : decode cX5_carriedOut 63 = .ok (.aload_n 0, 1) := by decide +kernel
theorem dX5_carriedOut_64 : decode cX5_carriedOut 64 = .ok (.aload_n 0, 1) := by decide +kernel
theorem dX5_carriedOut_65 : decode cX5_carriedOut 65 = .ok (.getfield 43, 3) := by decide +kernel
theorem dX5_carriedOut_68 : decode cX5_carriedOut 68 = .ok (.iload_n 1, 1) := by decide +kernel
theorem dX5_carriedOut_69 : decode cX5_carriedOut 69 = .ok (.iaload, 1) := by decide +kernel
theorem dX5_carriedOut_70 : decode cX5_carriedOut 70 = .ok (.aload_n 0, 1) := by decide +kernel
theorem dX5_carriedOut_71 : decode cX5_carriedOut 71 = .ok (.getfield 46, 3) := by decide +kernel
theorem dX5_carriedOut_74 : decode cX5_carriedOut 74 = .ok (.iload_n 1, 1) := by decide +kernel
theorem dX5_carriedOut_75 : decode cX5_carriedOut 75 = .ok (.iaload, 1) := by decide +kernel
theorem dX5_carriedOut_76 : decode cX5_carriedOut 76 = .ok (.aload_n 0, 1) := by decide +kernel
theorem dX5_carriedOut_77 : decode cX5_carriedOut 77 = .ok (.getfield 49, 3) := by decide +kernel
theorem dX5_carriedOut_80 : decode cX5_carriedOut 80 = .ok (.iload_n 1, 1) := by decide +kernel
theorem dX5_carriedOut_81 : decode cX5_carriedOut 81 = .ok (.iaload, 1) := by decide +kernel
theorem dX5_carriedOut_82 : decode cX5_carriedOut 82 = .ok (.invokevirtual 131, 3) := by decide +kernel
theorem dX5_carriedOut_85 : decode cX5_carriedOut 85 = .ok (.ireturn, 1) := by decide +kernel
theorem dX5_carriedOut_86 : decode cX5_carriedOut 86 = .ok (.aload_n 0, 1) := by decide +kernel
theorem dX5_carriedOut_87 : decode cX5_carriedOut 87 = .ok (.aload_n 0, 1) := by decide +kernel
theorem dX5_carriedOut_88 : decode cX5_carriedOut 88 = .ok (.getfield 43, 3) := by decide +kernel
theorem dX5_carriedOut_91 : decode cX5_carriedOut 91 = .ok (.iload_n 1, 1) := by decide +kernel
theorem dX5_carriedOut_92 : decode cX5_carriedOut 92 = .ok (.iaload, 1) := by decide +kernel
theorem dX5_carriedOut_93 : decode cX5_carriedOut 93 = .ok (.invokevirtual 135, 3) := by decide +kernel
theorem dX5_carriedOut_96 : decode cX5_carriedOut 96 = .ok (.ireturn, 1) := by decide +kernel
theorem dX5_run_0 : decode cX5_run 0 = .ok (.iconst 0, 1) := by decide +kernel
theorem dX5_run_1 : decode cX5_run 1 = .ok (.istore_n 1, 1) := by decide +kernel
theorem dX5_run_2 : decode cX5_run 2 = .ok (.iconst 1, 1) := by decide +kernel
theorem dX5_run_3 : decode cX5_run 3 = .ok (.istore_n 2, 1) := by decide +kernel
theorem dX5_run_4 : decode cX5_run 4 = .ok (.iconst 0, 1) := by decide +kernel
theorem dX5_run_5 : decode cX5_run 5 = .ok (.istore_n 3, 1) := by decide +kernel
theorem dX5_run_6 : decode cX5_run 6 = .ok (.iload_n 3, 1) := by decide +kernel
theorem dX5_run_7 : decode cX5_run 7 = .ok (.aload_n 0, 1) := by decide +kernel
theorem dX5_run_8 : decode cX5_run 8 = .ok (.getfield 122, 3) := by decide +kernel
theorem dX5_run_11 : decode cX5_run 11 = .ok (.if_icmp .ge 72, 3) := by decide +kernel
theorem dX5_run_14 : decode cX5_run 14 = .ok (.iload_n 2, 1) := by decide +kernel
theorem dX5_run_15 : decode cX5_run 15 = .ok (.ifCond .eq 68, 3) := by decide +kernel
theorem dX5_run_18 : decode cX5_run 18 = .ok (.aload_n 0, 1) := by decide +kernel
theorem dX5_run_19 : decode cX5_run 19 = .ok (.getfield 40, 3) := by decide +kernel
theorem dX5_run_22 : decode cX5_run 22 = .ok (.iload_n 3, 1) := by decide +kernel
theorem dX5_run_23 : decode cX5_run 23 = .ok (.iaload, 1) := by decide +kernel
theorem dX5_run_24 : decode cX5_run 24 = .ok (.iconst 4, 1) := by decide +kernel
theorem dX5_run_25 : decode cX5_run 25 = .ok (.if_icmp .eq 7, 3) := by decide +kernel
theorem dX5_run_28 : decode cX5_run 28 = .ok (.iconst 1, 1) := by decide +kernel
theorem dX5_run_29 : decode cX5_run 29 = .ok (.goto 4, 3) := by decide +kernel
theorem dX5_run_32 : decode cX5_run 32 = .ok (.iconst 0, 1) := by decide +kernel
theorem dX5_run_33 : decode cX5_run 33 = .ok (.istore_n 2, 1) := by decide +kernel
theorem dX5_run_34 : decode cX5_run 34 = .ok (.iload_n 2, 1) := by decide +kernel
theorem dX5_run_35 : decode cX5_run 35 = .ok (.ifCond .eq 30, 3) := by decide +kernel
theorem dX5_run_38 : decode cX5_run 38 = .ok (.aload_n 0, 1) := by decide +kernel
theorem dX5_run_39 : decode cX5_run 39 = .ok (.iload_n 3, 1) := by decide +kernel
theorem dX5_run_40 : decode cX5_run 40 = .ok (.invokevirtual 138, 3) := by decide +kernel
theorem dX5_run_43 : decode cX5_run 43 = .ok (.istore 4, 2) := by decide +kernel
theorem dX5_run_45 : decode cX5_run 45 = .ok (.iload 4, 2) := by decide +kernel
theorem dX5_run_47 : decode cX5_run 47 = .ok (.bipush (-6), 2) := by decide +kernel
theorem dX5_run_49 : decode cX5_run 49 = .ok (.if_icmp .eq 14, 3) := by decide +kernel
theorem dX5_run_52 : decode cX5_run 52 = .ok (.iload 4, 2) := by decide +kernel
theorem dX5_run_54 : decode cX5_run 54 = .ok (.bipush (-7), 2) := by decide +kernel
theorem dX5_run_56 : decode cX5_run 56 = .ok (.if_icmp .eq 7, 3) := by decide +kernel
theorem dX5_run_59 : decode cX5_run 59 = .ok (.iconst 1, 1) := by decide +kernel
theorem dX5_run_60 : decode cX5_run 60 = .ok (.goto 4, 3) := by decide +kernel
theorem dX5_run_63 : decode cX5_run 63 = .ok (.iconst 0, 1) := by decide +kernel
theorem dX5_run_64 : decode cX5_run 64 = .ok (.istore_n 2, 1) := by decide +kernel
theorem dX5_run_65 : decode cX5_run 65 = .ok (.iload_n 1, 1) := by decide +kernel
theorem dX5_run_66 : decode cX5_run 66 = .ok (.iload_n 2, 1) := by decide +kernel
theorem dX5_run_67 : decode cX5_run 67 = .ok (.ifCond .eq 7, 3) := by decide +kernel
theorem dX5_run_70 : decode cX5_run 70 = .ok (.iconst 1, 1) := by decide +kernel
theorem dX5_run_71 : decode cX5_run 71 = .ok (.goto 4, 3) := by decide +kernel
theorem dX5_run_74 : decode cX5_run 74 = .ok (.iconst 0, 1) := by decide +kernel
theorem dX5_run_75 : decode cX5_run 75 = .ok (.iadd, 1) := by decide +kernel
theorem dX5_run_76 : decode cX5_run 76 = .ok (.istore_n 1, 1) := by decide +kernel
theorem dX5_run_77 : decode cX5_run 77 = .ok (.iinc 3 1, 3) := by decide +kernel
theorem dX5_run_80 : decode cX5_run 80 = .ok (.goto (-74), 3) := by decide +kernel
theorem dX5_run_83 : decode cX5_run 83 = .ok (.aload_n 0, 1) := by decide +kernel
theorem dX5_run_84 : decode cX5_run 84 = .ok (.iconst 0, 1) := by decide +kernel
theorem dX5_run_85 : decode cX5_run 85 = .ok (.putfield 122, 3) := by decide +kernel
theorem dX5_run_88 : decode cX5_run 88 = .ok (.iload_n 1, 1) := by decide +kernel
theorem dX5_run_89 : decode cX5_run 89 = .ok (.ireturn, 1) := by decide +kernel
theorem dX5_sum_0 : decode cX5_sum 0 = .ok (.aload_n 0, 1) := by decide +kernel
theorem dX5_sum_1 : decode cX5_sum 1 = .ok (.iload_n 1, 1) := by decide +kernel
theorem dX5_sum_2 : decode cX5_sum 2 = .ok (.invokevirtual 67, 3) := by decide +kernel
theorem dX5_sum_5 : decode cX5_sum 5 = .ok (.ifCond .eq 12, 3) := by decide +kernel
theorem dX5_sum_8 : decode cX5_sum 8 = .ok (.aload_n 0, 1) := by decide +kernel
theorem dX5_sum_9 : decode cX5_sum 9 = .ok (.getfield 22, 3) := by decide +kernel
theorem dX5_sum_12 : decode cX5_sum 12 = .ok (.iload_n 1, 1) := by decide +kernel
theorem dX5_sum_13 : decode cX5_sum 13 = .ok (.iaload, 1) := by decide +kernel
theorem dX5_sum_14 : decode cX5_sum 14 = .ok (.goto 5, 3) := by decide +kernel
theorem dX5_sum_17 : decode cX5_sum 17 = .ok (.bipush (-2), 2) := by decide +kernel
theorem dX5_sum_19 : decode cX5_sum 19 = .ok (.ireturn, 1) := by decide +kernel
theorem dX5_hung_0 : decode cX5_hung 0 = .ok (.aload_n 0, 1) := by decide +kernel
theorem dX5_hung_1 : decode cX5_hung 1 = .ok (.iload_n 1, 1) := by decide +kernel
theorem dX5_hung_2 : decode cX5_hung 2 = .ok (.invokevirtual 67, 3) := by decide +kernel
theorem dX5_hung_5 : decode cX5_hung 5 = .ok (.ifCond .eq 23, 3) := by decide +kernel
theorem dX5_hung_8 : decode cX5_hung 8 = .ok (.iload_n 2, 1) := by decide +kernel
theorem dX5_hung_9 : decode cX5_hung 9 = .ok (.invokestatic 70, 3) := by decide +kernel
theorem dX5_hung_12 : decode cX5_hung 12 = .ok (.ifCond .eq 16, 3) := by decide +kernel
theorem dX5_hung_15 : decode cX5_hung 15 = .ok (.aload_n 0, 1) := by decide +kernel
theorem dX5_hung_16 : decode cX5_hung 16 = .ok (.getfield 31, 3) := by decide +kernel
theorem dX5_hung_19 : decode cX5_hung 19 = .ok (.iconst 2, 1) := by decide +kernel
theorem dX5_hung_20 : decode cX5_hung 20 = .ok (.iload_n 1, 1) := by decide +kernel
theorem dX5_hung_21 : decode cX5_hung 21 = .ok (.imul, 1) := by decide +kernel
theorem dX5_hung_22 : decode cX5_hung 22 = .ok (.iload_n 2, 1) := by decide +kernel
theorem dX5_hung_23 : decode cX5_hung 23 = .ok (.iadd, 1) := by decide +kernel
theorem dX5_hung_24 : decode cX5_hung 24 = .ok (.iaload, 1) := by decide +kernel
theorem dX5_hung_25 : decode cX5_hung 25 = .ok (.goto 5, 3) := by decide +kernel
theorem dX5_hung_28 : decode cX5_hung 28 = .ok (.bipush (-2), 2) := by decide +kernel
theorem dX5_hung_30 : decode cX5_hung 30 = .ok (.ireturn, 1) := by decide +kernel
theorem dX5_wear_0 : decode cX5_wear 0 = .ok (.aload_n 0, 1) := by decide +kernel
theorem dX5_wear_1 : decode cX5_wear 1 = .ok (.iload_n 1, 1) := by decide +kernel
theorem dX5_wear_2 : decode cX5_wear 2 = .ok (.invokevirtual 73, 3) := by decide +kernel
theorem dX5_wear_5 : decode cX5_wear 5 = .ok (.ifCond .eq 12, 3) := by decide +kernel
theorem dX5_wear_8 : decode cX5_wear 8 = .ok (.aload_n 0, 1) := by decide +kernel
theorem dX5_wear_9 : decode cX5_wear 9 = .ok (.getfield 16, 3) := by decide +kernel
theorem dX5_wear_12 : decode cX5_wear 12 = .ok (.iload_n 1, 1) := by decide +kernel
theorem dX5_wear_13 : decode cX5_wear 13 = .ok (.iaload, 1) := by decide +kernel
theorem dX5_wear_14 : decode cX5_wear 14 = .ok (.goto 5, 3) := by decide +kernel
theorem dX5_wear_17 : decode cX5_wear 17 = .ok (.bipush (-2), 2) := by decide +kernel
theorem dX5_wear_19 : decode cX5_wear 19 = .ok (.ireturn, 1) := by decide +kernel
theorem dX5_entries_0 : decode cX5_entries 0 = .ok (.aload_n 0, 1) := by decide +kernel
theorem dX5_entries_1 : decode cX5_entries 1 = .ok (.getfield 60, 3) := by decide +kernel
theorem dX5_entries_4 : decode cX5_entries 4 = .ok (.ireturn, 1) := by decide +kernel
theorem dX5_entry_0 : decode cX5_entry 0 = .ok (.iload_n 1, 1) := by decide +kernel
theorem dX5_entry_1 : decode cX5_entry 1 = .ok (.ifCond .lt 27, 3) := by decide +kernel
theorem dX5_entry_4 : decode cX5_entry 4 = .ok (.iload_n 1, 1) := by decide +kernel
theorem dX5_entry_5 : decode cX5_entry 5 = .ok (.aload_n 0, 1) := by decide +kernel
theorem dX5_entry_6 : decode cX5_entry 6 = .ok (.getfield 60, 3) := by decide +kernel
theorem dX5_entry_9 : decode cX5_entry 9 = .ok (.if_icmp .ge 19, 3) := by decide +kernel
theorem dX5_entry_12 : decode cX5_entry 12 = .ok (.iload_n 1, 1) := by decide +kernel
theorem dX5_entry_13 : decode cX5_entry 13 = .ok (.sipush 400, 3) := by decide +kernel
theorem dX5_entry_16 : decode cX5_entry 16 = .ok (.if_icmp .ge 12, 3) := by decide +kernel
theorem dX5_entry_19 : decode cX5_entry 19 = .ok (.aload_n 0, 1) := by decide +kernel
theorem dX5_entry_20 : decode cX5_entry 20 = .ok (.getfield 37, 3) := by decide +kernel
theorem dX5_entry_23 : decode cX5_entry 23 = .ok (.iload_n 1, 1) := by decide +kernel
theorem dX5_entry_24 : decode cX5_entry 24 = .ok (.iaload, 1) := by decide +kernel
theorem dX5_entry_25 : decode cX5_entry 25 = .ok (.goto 4, 3) := by decide +kernel
theorem dX5_entry_28 : decode cX5_entry 28 = .ok (.iconst (-1), 1) := by decide +kernel
theorem dX5_entry_29 : decode cX5_entry 29 = .ok (.ireturn, 1) := by decide +kernel
theorem dX5_clear_0 : decode cX5_clear 0 = .ok (.aload_n 0, 1) := by decide +kernel
theorem dX5_clear_1 : decode cX5_clear 1 = .ok (.getfield 60, 3) := by decide +kernel
theorem dX5_clear_4 : decode cX5_clear 4 = .ok (.istore_n 1, 1) := by decide +kernel
theorem dX5_clear_5 : decode cX5_clear 5 = .ok (.aload_n 0, 1) := by decide +kernel
theorem dX5_clear_6 : decode cX5_clear 6 = .ok (.iconst 0, 1) := by decide +kernel
theorem dX5_clear_7 : decode cX5_clear 7 = .ok (.putfield 60, 3) := by decide +kernel
theorem dX5_clear_10 : decode cX5_clear 10 = .ok (.iload_n 1, 1) := by decide +kernel
theorem dX5_clear_11 : decode cX5_clear 11 = .ok (.ireturn, 1) := by decide +kernel
theorem dX5_alarms_0 : decode cX5_alarms 0 = .ok (.aload_n 0, 1) := by decide +kernel
theorem dX5_alarms_1 : decode cX5_alarms 1 = .ok (.getfield 89, 3) := by decide +kernel
theorem dX5_alarms_4 : decode cX5_alarms 4 = .ok (.ireturn, 1) := by decide +kernel
theorem dX5_orders_0 : decode cX5_orders 0 = .ok (.aload_n 0, 1) := by decide +kernel
theorem dX5_orders_1 : decode cX5_orders 1 = .ok (.getfield 122, 3) := by decide +kernel
theorem dX5_orders_4 : decode cX5_orders 4 = .ok (.ireturn, 1) := by decide +kernel
