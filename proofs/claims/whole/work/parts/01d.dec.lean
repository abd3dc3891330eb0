theorem dX4_sweep_103 : decode cX4_sweep 103 = .ok (.iload 5, 2) := by decide +kernel
theorem dX4_sweep_105 : decode cX4_sweep 105 = .ok (.iaload, 1) := by decide +kernel
theorem dX4_sweep_106 : decode cX4_sweep 106 = .ok (.iload 4, 2) := by decide +kernel
theorem dX4_sweep_108 : decode cX4_sweep 108 = .ok (.invokestatic 109, 3) := by decide +kernel
theorem dX4_sweep_111 : decode cX4_sweep 111 = .ok (.istore 7, 2) := by decide +kernel
theorem dX4_sweep_113 : decode cX4_sweep 113 = .ok (.aload_n 0, 1) := by decide +kernel
theorem dX4_sweep_114 : decode cX4_sweep 114 = .ok (.getfield 19, 3) := by decide +kernel
theorem dX4_sweep_117 : decode cX4_sweep 117 = .ok (.getfield 91, 3) := by decide +kernel
theorem dX4_sweep_120 : decode cX4_sweep 120 = .ok (.iload 5, 2) := by decide +kernel
theorem dX4_sweep_122 : decode cX4_sweep 122 = .ok (.dup2, 1) := by decide +kernel
theorem dX4_sweep_123 : decode cX4_sweep 123 = .ok (.iaload, 1) := by decide +kernel
theorem dX4_sweep_124 : decode cX4_sweep 124 = .ok (.iload 7, 2) := by decide +kernel
theorem dX4_sweep_126 : decode cX4_sweep 126 = .ok (.isub, 1) := by decide +kernel
theorem dX4_sweep_127 : decode cX4_sweep 127 = .ok (.iastore, 1) := by decide +kernel
theorem dX4_sweep_128 : decode cX4_sweep 128 = .ok (.iload 4, 2) := by decide +kernel
theorem dX4_sweep_130 : decode cX4_sweep 130 = .ok (.iload 7, 2) := by decide +kernel
theorem dX4_sweep_132 : decode cX4_sweep 132 = .ok (.isub, 1) := by decide +kernel
theorem dX4_sweep_133 : decode cX4_sweep 133 = .ok (.istore 4, 2) := by decide +kernel
theorem dX4_sweep_135 : decode cX4_sweep 135 = .ok (.aload_n 0, 1) := by decide +kernel
theorem dX4_sweep_136 : decode cX4_sweep 136 = .ok (.iload 4, 2) := by decide +kernel
theorem dX4_sweep_138 : decode cX4_sweep 138 = .ok (.ifCond .ne 9, 3) := by decide +kernel
theorem dX4_sweep_141 : decode cX4_sweep 141 = .ok (.sipush 400, 3) := by decide +kernel
theorem dX4_sweep_144 : decode cX4_sweep 144 = .ok (.goto 6, 3) := by decide +kernel
theorem dX4_sweep_147 : decode cX4_sweep 147 = .ok (.sipush 200, 3) := by decide +kernel
theorem dX4_sweep_150 : decode cX4_sweep 150 = .ok (.iconst (-1), 1) := by decide +kernel
theorem dX4_sweep_151 : decode cX4_sweep 151 = .ok (.invokevirtual 88, 3) := by decide +kernel
theorem dX4_sweep_154 : decode cX4_sweep 154 = .ok (.pop, 1) := by decide +kernel
theorem dX4_sweep_155 : decode cX4_sweep 155 = .ok (.iinc 5 1, 3) := by decide +kernel
theorem dX4_sweep_158 : decode cX4_sweep 158 = .ok (.goto (-130), 3) := by decide +kernel
theorem dX4_sweep_161 : decode cX4_sweep 161 = .ok (.iload_n 3, 1) := by decide +kernel
theorem dX4_sweep_162 : decode cX4_sweep 162 = .ok (.iload 4, 2) := by decide +kernel
theorem dX4_sweep_164 : decode cX4_sweep 164 = .ok (.isub, 1) := by decide +kernel
theorem dX4_sweep_165 : decode cX4_sweep 165 = .ok (.ireturn, 1) := by decide +kernel
theorem dX4_walk_0 : decode cX4_walk 0 = .ok (.aload_n 0, 1) := by decide +kernel
theorem dX4_walk_1 : decode cX4_walk 1 = .ok (.getfield 19, 3) := by decide +kernel
theorem dX4_walk_4 : decode cX4_walk 4 = .ok (.iload_n 1, 1) := by decide +kernel
theorem dX4_walk_5 : decode cX4_walk 5 = .ok (.invokevirtual 75, 3) := by decide +kernel
theorem dX4_walk_8 : decode cX4_walk 8 = .ok (.ifCond .eq 17, 3) := by decide +kernel
theorem dX4_walk_11 : decode cX4_walk 11 = .ok (.iload_n 2, 1) := by decide +kernel
theorem dX4_walk_12 : decode cX4_walk 12 = .ok (.iconst 1, 1) := by decide +kernel
theorem dX4_walk_13 : decode cX4_walk 13 = .ok (.bipush 60, 2) := by decide +kernel
theorem dX4_walk_15 : decode cX4_walk 15 = .ok (.invokestatic 48, 3) := by decide +kernel
theorem dX4_walk_18 : decode cX4_walk 18 = .ok (.ifCond .eq 7, 3) := by decide +kernel
theorem dX4_walk_21 : decode cX4_walk 21 = .ok (.iload_n 3, 1) := by decide +kernel
theorem dX4_walk_22 : decode cX4_walk 22 = .ok (.ifCond .ge 6, 3) := by decide +kernel
theorem dX4_walk_25 : decode cX4_walk 25 = .ok (.bipush (-2), 2) := by decide +kernel
theorem dX4_walk_27 : decode cX4_walk 27 = .ok (.ireturn, 1) := by decide +kernel
theorem dX4_walk_28 : decode cX4_walk 28 = .ok (.iconst 0, 1) := by decide +kernel
theorem dX4_walk_29 : decode cX4_walk 29 = .ok (.istore 4, 2) := by decide +kernel
theorem dX4_walk_31 : decode cX4_walk 31 = .ok (.iload_n 1, 1) := by decide +kernel
theorem dX4_walk_32 : decode cX4_walk 32 = .ok (.istore 5, 2) := by decide +kernel
theorem dX4_walk_34 : decode cX4_walk 34 = .ok (.iconst 0, 1) := by decide +kernel
theorem dX4_walk_35 : decode cX4_walk 35 = .ok (.istore 6, 2) := by decide +kernel
theorem dX4_walk_37 : decode cX4_walk 37 = .ok (.iload 6, 2) := by decide +kernel
theorem dX4_walk_39 : decode cX4_walk 39 = .ok (.iload_n 2, 1) := by decide +kernel
theorem dX4_walk_40 : decode cX4_walk 40 = .ok (.if_icmp .ge 93, 3) := by decide +kernel
theorem dX4_walk_43 : decode cX4_walk 43 = .ok (.aload_n 0, 1) := by decide +kernel
theorem dX4_walk_44 : decode cX4_walk 44 = .ok (.getfield 19, 3) := by decide +kernel
theorem dX4_walk_47 : decode cX4_walk 47 = .ok (.iload 5, 2) := by decide +kernel
theorem dX4_walk_49 : decode cX4_walk 49 = .ok (.invokevirtual 75, 3) := by decide +kernel
theorem dX4_walk_52 : decode cX4_walk 52 = .ok (.ifCond .eq 81, 3) := by decide +kernel
theorem dX4_walk_55 : decode cX4_walk 55 = .ok (.aload_n 0, 1) := by decide +kernel
theorem dX4_walk_56 : decode cX4_walk 56 = .ok (.iload 5, 2) := by decide +kernel
theorem dX4_walk_58 : decode cX4_walk 58 = .ok (.iconst 0, 1) := by decide +kernel
theorem dX4_walk_59 : decode cX4_walk 59 = .ok (.invokevirtual 106, 3) := by decide +kernel
theorem dX4_walk_62 : decode cX4_walk 62 = .ok (.istore 7, 2) := by decide +kernel
theorem dX4_walk_64 : decode cX4_walk 64 = .ok (.iload 7, 2) := by decide +kernel
theorem dX4_walk_66 : decode cX4_walk 66 = .ok (.bipush (-7), 2) := by decide +kernel
theorem dX4_walk_68 : decode cX4_walk 68 = .ok (.if_icmp .ne 10, 3) := by decide +kernel
theorem dX4_walk_71 : decode cX4_walk 71 = .ok (.aload_n 0, 1) := by decide +kernel
theorem dX4_walk_72 : decode cX4_walk 72 = .ok (.bipush (-7), 2) := by decide +kernel
theorem dX4_walk_74 : decode cX4_walk 74 = .ok (.invokevirtual 94, 3) := by decide +kernel
theorem dX4_walk_77 : decode cX4_walk 77 = .ok (.ireturn, 1) := by decide +kernel
theorem dX4_walk_78 : decode cX4_walk 78 = .ok (.iload 7, 2) := by decide +kernel
theorem dX4_walk_80 : decode cX4_walk 80 = .ok (.iconst 1, 1) := by decide +kernel
theorem dX4_walk_81 : decode cX4_walk 81 = .ok (.if_icmp .ne 6, 3) := by decide +kernel
theorem dX4_walk_84 : decode cX4_walk 84 = .ok (.goto 49, 3) := by decide +kernel
theorem dX4_walk_87 : decode cX4_walk 87 = .ok (.iload 4, 2) := by decide +kernel
theorem dX4_walk_89 : decode cX4_walk 89 = .ok (.aload_n 0, 1) := by decide +kernel
theorem dX4_walk_90 : decode cX4_walk 90 = .ok (.getfield 19, 3) := by decide +kernel
theorem dX4_walk_93 : decode cX4_walk 93 = .ok (.getfield 91, 3) := by decide +kernel
theorem dX4_walk_96 : decode cX4_walk 96 = .ok (.iload 5, 2) := by decide +kernel
theorem dX4_walk_98 : decode cX4_walk 98 = .ok (.iaload, 1) := by decide +kernel
theorem dX4_walk_99 : decode cX4_walk 99 = .ok (.iadd, 1) := by decide +kernel
theorem dX4_walk_100 : decode cX4_walk 100 = .ok (.istore 4, 2) := by decide +kernel
theorem dX4_walk_102 : decode cX4_walk 102 = .ok (.iload 4, 2) := by decide +kernel
theorem dX4_walk_104 : decode cX4_walk 104 = .ok (.iload_n 3, 1) := by decide +kernel
theorem dX4_walk_105 : decode cX4_walk 105 = .ok (.if_icmp .le 10, 3) := by decide +kernel
theorem dX4_walk_108 : decode cX4_walk 108 = .ok (.aload_n 0, 1) := by decide +kernel
theorem dX4_walk_109 : decode cX4_walk 109 = .ok (.bipush (-6), 2) := by decide +kernel
theorem dX4_walk_111 : decode cX4_walk 111 = .ok (.invokevirtual 94, 3) := by decide +kernel
theorem dX4_walk_114 : decode cX4_walk 114 = .ok (.ireturn, 1) := by decide +kernel
theorem dX4_walk_115 : decode cX4_walk 115 = .ok (.aload_n 0, 1) := by decide +kernel
theorem dX4_walk_116 : decode cX4_walk 116 = .ok (.getfield 19, 3) := by decide +kernel
theorem dX4_walk_119 : decode cX4_walk 119 = .ok (.getfield 76, 3) := by decide +kernel
theorem dX4_walk_122 : decode cX4_walk 122 = .ok (.iload 5, 2) := by decide +kernel
theorem dX4_walk_124 : decode cX4_walk 124 = .ok (.iaload, 1) := by decide +kernel
theorem dX4_walk_125 : decode cX4_walk 125 = .ok (.istore 5, 2) := by decide +kernel
theorem dX4_walk_127 : decode cX4_walk 127 = .ok (.iinc 6 1, 3) := by decide +kernel
theorem dX4_walk_130 : decode cX4_walk 130 = .ok (.goto (-93), 3) := by decide +kernel
theorem dX4_walk_133 : decode cX4_walk 133 = .ok (.aload_n 0, 1) := by decide +kernel
theorem dX4_walk_134 : decode cX4_walk 134 = .ok (.sipush 200, 3) := by decide +kernel
theorem dX4_walk_137 : decode cX4_walk 137 = .ok (.iload 4, 2) := by decide +kernel
theorem dX4_walk_139 : decode cX4_walk 139 = .ok (.invokevirtual 88, 3) := by decide +kernel
theorem dX4_walk_142 : decode cX4_walk 142 = .ok (.ireturn, 1) := by decide +kernel
theorem dX4_order_0 : decode cX4_order 0 = .ok (.aload_n 0, 1) := by decide +kernel
theorem dX4_order_1 : decode cX4_order 1 = .ok (.iload_n 1, 1) := by decide +kernel
theorem dX4_order_2 : decode cX4_order 2 = .ok (.iload_n 2, 1) := by decide +kernel
theorem dX4_order_3 : decode cX4_order 3 = .ok (.iload_n 3, 1) := by decide +kernel
theorem dX4_order_4 : decode cX4_order 4 = .ok (.iload 4, 2) := by decide +kernel
theorem dX4_order_6 : decode cX4_order 6 = .ok (.invokevirtual 114, 3) := by decide +kernel
theorem dX4_order_9 : decode cX4_order 9 = .ok (.ifCond .ne 6, 3) := by decide +kernel
theorem dX4_order_12 : decode cX4_order 12 = .ok (.bipush (-2), 2) := by decide +kernel
theorem dX4_order_14 : decode cX4_order 14 = .ok (.ireturn, 1) := by decide +kernel
theorem dX4_order_15 : decode cX4_order 15 = .ok (.aload_n 0, 1) := by decide +kernel
theorem dX4_order_16 : decode cX4_order 16 = .ok (.getfield 33, 3) := by decide +kernel
theorem dX4_order_19 : decode cX4_order 19 = .ok (.iload_n 1, 1) := by decide +kernel
theorem dX4_order_20 : decode cX4_order 20 = .ok (.iload_n 2, 1) := by decide +kernel
theorem dX4_order_21 : decode cX4_order 21 = .ok (.iload_n 3, 1) := by decide +kernel
theorem dX4_order_22 : decode cX4_order 22 = .ok (.iload 4, 2) := by decide +kernel
theorem dX4_order_24 : decode cX4_order 24 = .ok (.invokevirtual 118, 3) := by decide +kernel
theorem dX4_order_27 : decode cX4_order 27 = .ok (.ireturn, 1) := by decide +kernel
theorem dX4_run_0 : decode cX4_run 0 = .ok (.aload_n 0, 1) := by decide +kernel
theorem dX4_run_1 : decode cX4_run 1 = .ok (.getfield 33, 3) := by decide +kernel
theorem dX4_run_4 : decode cX4_run 4 = .ok (.getfield 121, 3) := by decide +kernel
theorem dX4_run_7 : decode cX4_run 7 = .ok (.istore_n 1, 1) := by decide +kernel
theorem dX4_run_8 : decode cX4_run 8 = .ok (.iconst 0, 1) := by decide +kernel
theorem dX4_run_9 : decode cX4_run 9 = .ok (.istore_n 2, 1) := by decide +kernel
theorem dX4_run_10 : decode cX4_run 10 = .ok (.iload_n 2, 1) := by decide +kernel
theorem dX4_run_11 : decode cX4_run 11 = .ok (.iload_n 1, 1) := by decide +kernel
theorem dX4_run_12 : decode cX4_run 12 = .ok (.if_icmp .ge 17, 3) := by decide +kernel
theorem dX4_run_15 : decode cX4_run 15 = .ok (.aload_n 0, 1) := by decide +kernel
theorem dX4_run_16 : decode cX4_run 16 = .ok (.iload_n 2, 1) := by decide +kernel
theorem dX4_run_17 : decode cX4_run 17 = .ok (.invokevirtual 124, 3) := by decide +kernel
theorem dX4_run_20 : decode cX4_run 20 = .ok (.ifCond .eq 9, 3) := by decide +kernel
theorem dX4_run_23 : decode cX4_run 23 = .ok (.iinc 2 1, 3) := by decide +kernel
theorem dX4_run_26 : decode cX4_run 26 = .ok (.goto (-16), 3) := by decide +kernel
theorem dX4_run_29 : decode cX4_run 29 = .ok (.aload_n 0, 1) := by decide +kernel
theorem dX4_run_30 : decode cX4_run 30 = .ok (.getfield 33, 3) := by decide +kernel
theorem dX4_run_33 : decode cX4_run 33 = .ok (.iconst 0, 1) := by decide +kernel
theorem dX4_run_34 : decode cX4_run 34 = .ok (.putfield 121, 3) := by decide +kernel
theorem dX4_run_37 : decode cX4_run 37 = .ok (.iload_n 2, 1) := by decide +kernel
theorem dX4_run_38 : decode cX4_run 38 = .ok (.ireturn, 1) := by decide +kernel
theorem dX4_sum_0 : decode cX4_sum 0 = .ok (.aload_n 0, 1) := by decide +kernel
theorem dX4_sum_1 : decode cX4_sum 1 = .ok (.getfield 19, 3) := by decide +kernel
theorem dX4_sum_4 : decode cX4_sum 4 = .ok (.iload_n 1, 1) := by decide +kernel
theorem dX4_sum_5 : decode cX4_sum 5 = .ok (.invokevirtual 75, 3) := by decide +kernel
theorem dX4_sum_8 : decode cX4_sum 8 = .ok (.ifCond .eq 15, 3) := by decide +kernel
theorem dX4_sum_11 : decode cX4_sum 11 = .ok (.aload_n 0, 1) := by decide +kernel
theorem dX4_sum_12 : decode cX4_sum 12 = .ok (.getfield 19, 3) := by decide +kernel
theorem dX4_sum_15 : decode cX4_sum 15 = .ok (.getfield 91, 3) := by decide +kernel
theorem dX4_sum_18 : decode cX4_sum 18 = .ok (.iload_n 1, 1) := by decide +kernel
theorem dX4_sum_19 : decode cX4_sum 19 = .ok (.iaload, 1) := by decide +kernel
theorem dX4_sum_20 : decode cX4_sum 20 = .ok (.goto 5, 3) := by decide +kernel
theorem dX4_sum_23 : decode cX4_sum 23 = .ok (.bipush (-2), 2) := by decide +kernel
theorem dX4_sum_25 : decode cX4_sum 25 = .ok (.ireturn, 1) := by decide +kernel
theorem dX4_hung_0 : decode cX4_hung 0 = .ok (.aload_n 0, 1) := by decide +kernel
theorem dX4_hung_1 : decode cX4_hung 1 = .ok (.getfield 19, 3) := by decide +kernel
theorem dX4_hung_4 : decode cX4_hung 4 = .ok (.iload_n 1, 1) := by decide +kernel
theorem dX4_hung_5 : decode cX4_hung 5 = .ok (.iload_n 2, 1) := by decide +kernel
theorem dX4_hung_6 : decode cX4_hung 6 = .ok (.invokevirtual 60, 3) := by decide +kernel
theorem dX4_hung_9 : decode cX4_hung 9 = .ok (.ifCond .eq 15, 3) := by decide +kernel
theorem dX4_hung_12 : decode cX4_hung 12 = .ok (.aload_n 0, 1) := by decide +kernel
theorem dX4_hung_13 : decode cX4_hung 13 = .ok (.getfield 19, 3) := by decide +kernel
theorem dX4_hung_16 : decode cX4_hung 16 = .ok (.iload_n 1, 1) := by decide +kernel
theorem dX4_hung_17 : decode cX4_hung 17 = .ok (.iload_n 2, 1) := by decide +kernel
theorem dX4_hung_18 : decode cX4_hung 18 = .ok (.invokevirtual 68, 3) := by decide +kernel
theorem dX4_hung_21 : decode cX4_hung 21 = .ok (.goto 5, 3) := by decide +kernel
theorem dX4_hung_24 : decode cX4_hung 24 = .ok (.bipush (-2), 2) := by decide +kernel
theorem dX4_hung_26 : decode cX4_hung 26 = .ok (.ireturn, 1) := by decide +kernel
theorem dX4_wear_0 : decode cX4_wear 0 = .ok (.aload_n 0, 1) := by decide +kernel
theorem dX4_wear_1 : decode cX4_wear 1 = .ok (.getfield 10, 3) := by decide +kernel
theorem dX4_wear_4 : decode cX4_wear 4 = .ok (.iload_n 1, 1) := by decide +kernel
theorem dX4_wear_5 : decode cX4_wear 5 = .ok (.invokevirtual 64, 3) := by decide +kernel
theorem dX4_wear_8 : decode cX4_wear 8 = .ok (.ifCond .eq 15, 3) := by decide +kernel
theorem dX4_wear_11 : decode cX4_wear 11 = .ok (.aload_n 0, 1) := by decide +kernel
theorem dX4_wear_12 : decode cX4_wear 12 = .ok (.getfield 10, 3) := by decide +kernel
theorem dX4_wear_15 : decode cX4_wear 15 = .ok (.getfield 100, 3) := by decide +kernel
theorem dX4_wear_18 : decode cX4_wear 18 = .ok (.iload_n 1, 1) := by decide +kernel
theorem dX4_wear_19 : decode cX4_wear 19 = .ok (.iaload, 1) := by decide +kernel
theorem dX4_wear_20 : decode cX4_wear 20 = .ok (.goto 5, 3) := by decide +kernel
theorem dX4_wear_23 : decode cX4_wear 23 = .ok (.bipush (-2), 2) := by decide +kernel
theorem dX4_wear_25 : decode cX4_wear 25 = .ok (.ireturn, 1) := by decide +kernel
theorem dX4_entries_0 : decode cX4_entries 0 = .ok (.aload_n 0, 1) := by decide +kernel
theorem dX4_entries_1 : decode cX4_entries 1 = .ok (.getfield 26, 3) := by decide +kernel
theorem dX4_entries_4 : decode cX4_entries 4 = .ok (.getfield 127, 3) := by decide +kernel
theorem dX4_entries_7 : decode cX4_entries 7 = .ok (.ireturn, 1) := by decide +kernel
theorem dX4_entry_0 : decode cX4_entry 0 = .ok (.aload_n 0, 1) := by decide +kernel
theorem dX4_entry_1 : decode cX4_entry 1 = .ok (.getfield 26, 3) := by decide +kernel
theorem dX4_entry_4 : decode cX4_entry 4 = .ok (.iload_n 1, 1) := by decide +kernel
theorem dX4_entry_5 : decode cX4_entry 5 = .ok (.invokevirtual 128, 3) := by decide +kernel
theorem dX4_entry_8 : decode cX4_entry 8 = .ok (.ireturn, 1) := by decide +kernel
theorem dX4_clear_0 : decode cX4_clear 0 = .ok (.aload_n 0, 1) := by decide +kernel
theorem dX4_clear_1 : decode cX4_clear 1 = .ok (.getfield 26, 3) := by decide +kernel
theorem dX4_clear_4 : decode cX4_clear 4 = .ok (.getfield 127, 3) := by decide +kernel
theorem dX4_clear_7 : decode cX4_clear 7 = .ok (.istore_n 1, 1) := by decide +kernel
theorem dX4_clear_8 : decode cX4_clear 8 = .ok (.aload_n 0, 1) := by decide +kernel
theorem dX4_clear_9 : decode cX4_clear 9 = .ok (.getfield 26, 3) := by decide +kernel
theorem dX4_clear_12 : decode cX4_clear 12 = .ok (.iconst 0, 1) := by decide +kernel
theorem dX4_clear_13 : decode cX4_clear 13 = .ok (.putfield 127, 3) := by decide +kernel
theorem dX4_clear_16 : decode cX4_clear 16 = .ok (.iload_n 1, 1) := by decide +kernel
theorem dX4_clear_17 : decode cX4_clear 17 = .ok (.ireturn, 1) := by decide +kernel
theorem dX4_alarms_0 : decode cX4_alarms 0 = .ok (.aload_n 0, 1) := by decide +kernel
theorem dX4_alarms_1 : decode cX4_alarms 1 = .ok (.getfield 45, 3) := by decide +kernel
theorem dX4_alarms_4 : decode cX4_alarms 4 = .ok (.ireturn, 1) := by decide +kernel
theorem dX4_orders_0 : decode cX4_orders 0 = .ok (.aload_n 0, 1) := by decide +kernel
theorem dX4_orders_1 : decode cX4_orders 1 = .ok (.getfield 33, 3) := by decide +kernel
theorem dX4_orders_4 : decode cX4_orders 4 = .ok (.getfield 121, 3) := by decide +kernel
theorem dX4_orders_7 : decode cX4_orders 7 = .ok (.ireturn, 1) := by decide +kernel
theorem dX4_turnBoth_0 : decode cX4_turnBoth 0 = .ok (.aload_n 0, 1) := by decide +kernel
theorem dX4_turnBoth_1 : decode cX4_turnBoth 1 = .ok (.iload_n 1, 1) := by decide +kernel
theorem dX4_turnBoth_2 : decode cX4_turnBoth 2 = .ok (.iconst 0, 1) := by decide +kernel
theorem dX4_turnBoth_3 : decode cX4_turnBoth 3 = .ok (.invokevirtual 106, 3) := by decide +kernel
theorem dX4_turnBoth_6 : decode cX4_turnBoth 6 = .ok (.istore_n 2, 1) := by decide +kernel
theorem dX4_turnBoth_7 : decode cX4_turnBoth 7 = .ok (.iload_n 2, 1) := by decide +kernel
theorem dX4_turnBoth_8 : decode cX4_turnBoth 8 = .ok (.ifCond .ne 10, 3) := by decide +kernel
theorem dX4_turnBoth_11 : decode cX4_turnBoth 11 = .ok (.aload_n 0, 1) := by decide +kernel
theorem dX4_turnBoth_12 : decode cX4_turnBoth 12 = .ok (.iload_n 1, 1) := by decide +kernel
theorem dX4_turnBoth_13 : decode cX4_turnBoth 13 = .ok (.iconst 1, 1) := by decide +kernel
theorem dX4_turnBoth_14 : decode cX4_turnBoth 14 = .ok (.invokevirtual 106, 3) := by decide +kernel
theorem dX4_turnBoth_17 : decode cX4_turnBoth 17 = .ok (.istore_n 2, 1) := by decide +kernel
theorem dX4_turnBoth_18 : decode cX4_turnBoth 18 = .ok (.iload_n 2, 1) := by decide +kernel
theorem dX4_turnBoth_19 : decode cX4_turnBoth 19 = .ok (.bipush (-7), 2) := by decide +kernel
theorem dX4_turnBoth_21 : decode cX4_turnBoth 21 = .ok (.if_icmp .ne 10, 3) := by decide +kernel
theorem dX4_turnBoth_24 : decode cX4_turnBoth 24 = .ok (.aload_n 0, 1) := by decide +kernel
theorem dX4_turnBoth_25 : decode cX4_turnBoth 25 = .ok (.bipush (-7), 2) := by decide +kernel
theorem dX4_turnBoth_27 : decode cX4_turnBoth 27 = .ok (.invokevirtual 94, 3) := by decide +kernel
theorem dX4_turnBoth_30 : decode cX4_turnBoth 30 = .ok (.ireturn, 1) := by decide +kernel
theorem dX4_turnBoth_31 : decode cX4_turnBoth 31 = .ok (.iload_n 2, 1) := by decide +kernel
theorem dX4_turnBoth_32 : decode cX4_turnBoth 32 = .ok (.iconst 1, 1) := by decide +kernel
theorem dX4_turnBoth_33 : decode cX4_turnBoth 33 = .ok (.if_icmp .ne 13, 3) := by decide +kernel
theorem dX4_turnBoth_36 : decode cX4_turnBoth 36 = .ok (.aload_n 0, 1) := by decide +kernel
theorem dX4_turnBoth_37 : decode cX4_turnBoth 37 = .ok (.sipush 300, 3) := by decide +kernel
theorem dX4_turnBoth_40 : decode cX4_turnBoth 40 = .ok (.bipush (-4), 2) := by decide +kernel
theorem dX4_turnBoth_42 : decode cX4_turnBoth 42 = .ok (.invokevirtual 88, 3) := by decide +kernel
theorem dX4_turnBoth_45 : decode cX4_turnBoth 45 = .ok (.ireturn, 1) := by decide +kernel
theorem dX4_turnBoth_46 : decode cX4_turnBoth 46 = .ok (.iconst 0, 1) := by decide +kernel
theorem dX4_turnBoth_47 : decode cX4_turnBoth 47 = .ok (.ireturn, 1) := by decide +kernel
theorem dX4_turnHand_0 : decode cX4_turnHand 0 = .ok (.aload_n 0, 1) := by decide +kernel
theorem dX4_turnHand_1 : decode cX4_turnHand 1 = .ok (.getfield 19, 3) := by decide +kernel
theorem dX4_turnHand_4 : decode cX4_turnHand 4 = .ok (.iload_n 1, 1) := by decide +kernel
theorem dX4_turnHand_5 : decode cX4_turnHand 5 = .ok (.iload_n 2, 1) := by decide +kernel
theorem dX4_turnHand_6 : decode cX4_turnHand 6 = .ok (.invokevirtual 68, 3) := by decide +kernel
theorem dX4_turnHand_9 : decode cX4_turnHand 9 = .ok (.istore_n 3, 1) := by decide +kernel
theorem dX4_turnHand_10 : decode cX4_turnHand 10 = .ok (.aload_n 0, 1) := by decide +kernel
theorem dX4_turnHand_11 : decode cX4_turnHand 11 = .ok (.getfield 10, 3) := by decide +kernel
theorem dX4_turnHand_14 : decode cX4_turnHand 14 = .ok (.iload_n 3, 1) := by decide +kernel
theorem dX4_turnHand_15 : decode cX4_turnHand 15 = .ok (.invokevirtual 64, 3) := by decide +kernel
theorem dX4_turnHand_18 : decode cX4_turnHand 18 = .ok (.ifCond .ne 16, 3) := by decide +kernel
theorem dX4_turnHand_21 : decode cX4_turnHand 21 = .ok (.aload_n 0, 1) := by decide +kernel
theorem dX4_turnHand_22 : decode cX4_turnHand 22 = .ok (.getfield 26, 3) := by decide +kernel
theorem dX4_turnHand_25 : decode cX4_turnHand 25 = .ok (.bipush 10, 2) := by decide +kernel
theorem dX4_turnHand_27 : decode cX4_turnHand 27 = .ok (.iload_n 2, 1) := by decide +kernel
theorem dX4_turnHand_28 : decode cX4_turnHand 28 = .ok (.iadd, 1) := by decide +kernel
theorem dX4_turnHand_29 : decode cX4_turnHand 29 = .ok (.invokevirtual 131, 3) := by decide +kernel
theorem dX4_turnHand_32 : decode cX4_turnHand 32 = .ok (.iconst 1, 1) := by decide +kernel
theorem dX4_turnHand_33 : decode cX4_turnHand 33 = .ok (.ireturn, 1) := by decide +kernel
theorem dX4_turnHand_34 : decode cX4_turnHand 34 = .ok (.aload_n 0, 1) := by decide +kernel
theorem dX4_turnHand_35 : decode cX4_turnHand 35 = .ok (.iload_n 3, 1) := by decide +kernel
theorem dX4_turnHand_36 : decode cX4_turnHand 36 = .ok (.invokevirtual 97, 3) := by decide +kernel
theorem dX4_turnHand_39 : decode cX4_turnHand 39 = .ok (.ireturn, 1) := by decide +kernel
theorem dX4_turnKey_0 : decode cX4_turnKey 0 = .ok (.aload_n 0, 1) := by decide +kernel
theorem dX4_turnKey_1 : decode cX4_turnKey 1 = .ok (.getfield 10, 3) := by decide +kernel
theorem dX4_turnKey_4 : decode cX4_turnKey 4 = .ok (.getfield 135, 3) := by decide +kernel
theorem dX4_turnKey_7 : decode cX4_turnKey 7 = .ok (.iload_n 1, 1) := by decide +kernel
theorem dX4_turnKey_8 : decode cX4_turnKey 8 = .ok (.iaload, 1) := by decide +kernel
theorem dX4_turnKey_9 : decode cX4_turnKey 9 = .ok (.aload_n 0, 1) := by decide +kernel
theorem dX4_turnKey_10 : decode cX4_turnKey 10 = .ok (.getfield 10, 3) := by decide +kernel
theorem dX4_turnKey_13 : decode cX4_turnKey 13 = .ok (.getfield 138, 3) := by decide +kernel
theorem dX4_turnKey_16 : decode cX4_turnKey 16 = .ok (.iload_n 1, 1) := by decide +kernel
theorem dX4_turnKey_17 : decode cX4_turnKey 17 = .ok (.iaload, 1) := by decide +kernel
theorem dX4_turnKey_18 : decode cX4_turnKey 18 = .ok (.if_icmp .ge 15, 3) := by decide +kernel
theorem dX4_turnKey_21 : decode cX4_turnKey 21 = .ok (.aload_n 0, 1) := by decide +kernel
theorem dX4_turnKey_22 : decode cX4_turnKey 22 = .ok (.getfield 41, 3) := by decide +kernel
theorem dX4_turnKey_25 : decode cX4_turnKey 25 = .ok (.aload_n 0, 1) := by decide +kernel
theorem dX4_turnKey_26 : decode cX4_turnKey 26 = .ok (.getfield 37, 3) := by decide +kernel
theorem dX4_turnKey_29 : decode cX4_turnKey 29 = .ok (.arraylength, 1) := by decide +kernel
theorem dX4_turnKey_30 : decode cX4_turnKey 30 = .ok (.if_icmp .lt 18, 3) := by decide +kernel
theorem dX4_turnKey_33 : decode cX4_turnKey 33 = .ok (.aload_n 0, 1) := by decide +kernel
theorem dX4_turnKey_34 : decode cX4_turnKey 34 = .ok (.getfield 26, 3) := by decide +kernel
theorem dX4_turnKey_37 : decode cX4_turnKey 37 = .ok (.sipush 700, 3) := by decide +kernel
theorem dX4_turnKey_40 : decode cX4_turnKey 40 = .ok (.iload_n 1, 1) := by decide +kernel
theorem dX4_turnKey_41 : decode cX4_turnKey 41 = .ok (.iadd, 1) := by decide +kernel
theorem dX4_turnKey_42 : decode cX4_turnKey 42 = .ok (.invokevirtual 131, 3) := by decide +kernel
theorem dX4_turnKey_45 : decode cX4_turnKey 45 = .ok (.bipush (-7), 2) := by decide +kernel
theorem dX4_turnKey_47 : decode cX4_turnKey 47 = .ok (.ireturn, 1) := by decide +kernel
theorem dX4_turnKey_48 : decode cX4_turnKey 48 = .ok (.aload_n 0, 1) := by decide +kernel
theorem dX4_turnKey_49 : decode cX4_turnKey 49 = .ok (.getfield 10, 3) := by decide +kernel
theorem dX4_turnKey_52 : decode cX4_turnKey 52 = .ok (.getfield 100, 3) := by decide +kernel
theorem dX4_turnKey_55 : decode cX4_turnKey 55 = .ok (.iload_n 1, 1) := by decide +kernel
theorem dX4_turnKey_56 : decode cX4_turnKey 56 = .ok (.dup2, 1) := by decide +kernel
theorem dX4_turnKey_57 : decode cX4_turnKey 57 = .ok (.iaload, 1) := by decide +kernel
theorem dX4_turnKey_58 : decode cX4_turnKey 58 = .ok (.aload_n 0, 1) := by decide +kernel
theorem dX4_turnKey_59 : decode cX4_turnKey 59 = .ok (.getfield 10, 3) := by decide +kernel
theorem dX4_turnKey_62 : decode cX4_turnKey 62 = .ok (.getfield 141, 3) := by decide +kernel
theorem dX4_turnKey_65 : decode cX4_turnKey 65 = .ok (.iload_n 1, 1) := by decide +kernel
theorem dX4_turnKey_66 : decode cX4_turnKey 66 = .ok (.iaload, 1) := by decide +kernel
theorem dX4_turnKey_67 : decode cX4_turnKey 67 = .ok (.iadd, 1) := by decide +kernel
theorem dX4_turnKey_68 : decode cX4_turnKey 68 = .ok (.iastore, 1) := by decide +kernel
theorem dX4_turnKey_69 : decode cX4_turnKey 69 = .ok (.aload_n 0, 1) := by decide +kernel
theorem dX4_turnKey_70 : decode cX4_turnKey 70 = .ok (.getfield 10, 3) := by decide +kernel
theorem dX4_turnKey_73 : decode cX4_turnKey 73 = .ok (.getfield 135, 3) := by decide +kernel
theorem dX4_turnKey_76 : decode cX4_turnKey 76 = .ok (.iload_n 1, 1) := by decide +kernel
theorem dX4_turnKey_77 : decode cX4_turnKey 77 = .ok (.dup2, 1) := by decide +kernel
theorem dX4_turnKey_78 : decode cX4_turnKey 78 = .ok (.iaload, 1) := by decide +kernel
theorem dX4_turnKey_79 : decode cX4_turnKey 79 = .ok (.iconst 1, 1) := by decide +kernel
theorem dX4_turnKey_80 : decode cX4_turnKey 80 = .ok (.iadd, 1) := by decide +kernel
theorem dX4_turnKey_81 : decode cX4_turnKey 81 = .ok (.iastore, 1) := by decide +kernel
theorem dX4_turnKey_82 : decode cX4_turnKey 82 = .ok (.aload_n 0, 1) := by decide +kernel
theorem dX4_turnKey_83 : decode cX4_turnKey 83 = .ok (.getfield 37, 3) := by decide +kernel
theorem dX4_turnKey_86 : decode cX4_turnKey 86 = .ok (.aload_n 0, 1) := by decide +kernel
theorem dX4_turnKey_87 : decode cX4_turnKey 87 = .ok (.getfield 41, 3) := by decide +kernel
theorem dX4_turnKey_90 : decode cX4_turnKey 90 = .ok (.iload_n 1, 1) := by decide +kernel
theorem dX4_turnKey_91 : decode cX4_turnKey 91 = .ok (.iastore, 1) := by decide +kernel
theorem dX4_turnKey_92 : decode cX4_turnKey 92 = .ok (.aload_n 0, 1) := by decide +kernel
theorem dX4_turnKey_93 : decode cX4_turnKey 93 = .ok (.dup, 1) := by decide +kernel
theorem dX4_turnKey_94 : decode cX4_turnKey 94 = .ok (.getfield 41, 3) := by decide +kernel
theorem dX4_turnKey_97 : decode cX4_turnKey 97 = .ok (.iconst 1, 1) := by decide +kernel
theorem dX4_turnKey_98 : decode cX4_turnKey 98 = .ok (.iadd, 1) := by decide +kernel
theorem dX4_turnKey_99 : decode cX4_turnKey 99 = .ok (.putfield 41, 3) := by decide +kernel
theorem dX4_turnKey_102 : decode cX4_turnKey 102 = .ok (.aload_n 0, 1) := by decide +kernel
theorem dX4_turnKey_103 : decode cX4_turnKey 103 = .ok (.getfield 26, 3) := by decide +kernel
theorem dX4_turnKey_106 : decode cX4_turnKey 106 = .ok (.bipush 100, 2) := by decide +kernel
theorem dX4_turnKey_108 : decode cX4_turnKey 108 = .ok (.iload_n 1, 1) := by decide +kernel
theorem dX4_turnKey_109 : decode cX4_turnKey 109 = .ok (.iadd, 1) := by decide +kernel
theorem dX4_turnKey_110 : decode cX4_turnKey 110 = .ok (.invokevirtual 131, 3) := by decide +kernel
theorem dX4_turnKey_113 : decode cX4_turnKey 113 = .ok (.iconst 0, 1) := by decide +kernel
theorem dX4_turnKey_114 : decode cX4_turnKey 114 = .ok (.ireturn, 1) := by decide +kernel
theorem dX4_letGo_0 : decode cX4_letGo 0 = .ok (.aload_n 0, 1) := by decide +kernel
theorem dX4_letGo_1 : decode cX4_letGo 1 = .ok (.getfield 41, 3) := by decide +kernel
theorem dX4_letGo_4 : decode cX4_letGo 4 = .ok (.iconst 1, 1) := by decide +kernel
theorem dX4_letGo_5 : decode cX4_letGo 5 = .ok (.isub, 1) := by decide +kernel
theorem dX4_letGo_6 : decode cX4_letGo 6 = .ok (.istore_n 3, 1) := by decide +kernel
theorem dX4_letGo_7 : decode cX4_letGo 7 = .ok (.iload_n 3, 1) := by decide +kernel
theorem dX4_letGo_8 : decode cX4_letGo 8 = .ok (.ifCond .lt 42, 3) := by decide +kernel
theorem dX4_letGo_11 : decode cX4_letGo 11 = .ok (.aload_n 0, 1) := by decide +kernel
theorem dX4_letGo_12 : decode cX4_letGo 12 = .ok (.getfield 37, 3) := by decide +kernel
theorem dX4_letGo_15 : decode cX4_letGo 15 = .ok (.iload_n 3, 1) := by decide +kernel
theorem dX4_letGo_16 : decode cX4_letGo 16 = .ok (.iaload, 1) := by decide +kernel
theorem dX4_letGo_17 : decode cX4_letGo 17 = .ok (.istore 4, 2) := by decide +kernel
theorem dX4_letGo_19 : decode cX4_letGo 19 = .ok (.aload_n 0, 1) := by decide +kernel
theorem dX4_letGo_20 : decode cX4_letGo 20 = .ok (.getfield 10, 3) := by decide +kernel
theorem dX4_letGo_23 : decode cX4_letGo 23 = .ok (.getfield 135, 3) := by decide +kernel
theorem dX4_letGo_26 : decode cX4_letGo 26 = .ok (.iload 4, 2) := by decide +kernel
theorem dX4_letGo_28 : decode cX4_letGo 28 = .ok (.dup2, 1) := by decide +kernel
theorem dX4_letGo_29 : decode cX4_letGo 29 = .ok (.iaload, 1) := by decide +kernel
theorem dX4_letGo_30 : decode cX4_letGo 30 = .ok (.iconst 1, 1) := by decide +kernel
theorem dX4_letGo_31 : decode cX4_letGo 31 = .ok (.isub, 1) := by decide +kernel
theorem dX4_letGo_32 : decode cX4_letGo 32 = .ok (.iastore, 1) := by decide +kernel
theorem dX4_letGo_33 : decode cX4_letGo 33 = .ok (.aload_n 0, 1) := by decide +kernel
theorem dX4_letGo_34 : decode cX4_letGo 34 = .ok (.getfield 26, 3) := by decide +kernel
theorem dX4_letGo_37 : decode cX4_letGo 37 = .ok (.iload_n 1, 1) := by decide +kernel
theorem dX4_letGo_38 : decode cX4_letGo 38 = .ok (.iload 4, 2) := by decide +kernel
theorem dX4_letGo_40 : decode cX4_letGo 40 = .ok (.iadd, 1) := by decide +kernel
theorem dX4_letGo_41 : decode cX4_letGo 41 = .ok (.invokevirtual 131, 3) := by decide +kernel
theorem dX4_letGo_44 : decode cX4_letGo 44 = .ok (.iinc 3 (-1), 3) := by decide +kernel
theorem dX4_letGo_47 : decode cX4_letGo 47 = .ok (.goto (-40), 3) := by decide +kernel
theorem dX4_letGo_50 : decode cX4_letGo 50 = .ok (.aload_n 0, 1) := by decide +kernel
theorem dX4_letGo_51 : decode cX4_letGo 51 = .ok (.iconst 0, 1) := by decide +kernel
theorem dX4_letGo_52 : decode cX4_letGo 52 = .ok (.putfield 41, 3) := by decide +kernel
theorem dX4_letGo_55 : decode cX4_letGo 55 = .ok (.iload_n 2, 1) := by decide +kernel
theorem dX4_letGo_56 : decode cX4_letGo 56 = .ok (.ireturn, 1) := by decide +kernel
theorem dX4_raiseAlarm_0 : decode cX4_raiseAlarm 0 = .ok (.aload_n 0, 1) := by decide +kernel
theorem dX4_raiseAlarm_1 : decode cX4_raiseAlarm 1 = .ok (.dup, 1) := by decide +kernel
theorem dX4_raiseAlarm_2 : decode cX4_raiseAlarm 2 = .ok (.getfield 45, 3) := by decide +kernel
theorem dX4_raiseAlarm_5 : decode cX4_raiseAlarm 5 = .ok (.iconst 1, 1) := by decide +kernel
theorem dX4_raiseAlarm_6 : decode cX4_raiseAlarm 6 = .ok (.iadd, 1) := by decide +kernel
theorem dX4_raiseAlarm_7 : decode cX4_raiseAlarm 7 = .ok (.putfield 45, 3) := by decide +kernel
theorem dX4_raiseAlarm_10 : decode cX4_raiseAlarm 10 = .ok (.aload_n 0, 1) := by decide +kernel
theorem dX4_raiseAlarm_11 : decode cX4_raiseAlarm 11 = .ok (.sipush 600, 3) := by decide +kernel
theorem dX4_raiseAlarm_14 : decode cX4_raiseAlarm 14 = .ok (.iload_n 1, 1) := by decide +kernel
theorem dX4_raiseAlarm_15 : decode cX4_raiseAlarm 15 = .ok (.invokevirtual 88, 3) := by decide +kernel
theorem dX4_raiseAlarm_18 : decode cX4_raiseAlarm 18 = .ok (.ireturn, 1) := by decide +kernel
theorem dX4_isOrder_0 : decode cX4_isOrder 0 = .ok (.iload_n 1, 1) := by decide +kernel
theorem dX4_isOrder_1 : decode cX4_isOrder 1 = .ok (.tableswitch 107 0 4 #[35, 35, 60, 96, 105], 35) := by decide +kernel
theorem dX4_isOrder_36 : decode cX4_isOrder 36 = .ok (.aload_n 0, 1) := by decide +kernel
theorem dX4_isOrder_37 : decode cX4_isOrder 37 = .ok (.getfield 19, 3) := by decide +kernel
theorem dX4_isOrder_40 : decode cX4_isOrder 40 = .ok (.iload_n 2, 1) := by decide +kernel
theorem dX4_isOrder_41 : decode cX4_isOrder 41 = .ok (.invokevirtual 75, 3) := by decide +kernel
theorem dX4_isOrder_44 : decode cX4_isOrder 44 = .ok (.ifCond .eq 15, 3) := by decide +kernel
theorem dX4_isOrder_47 : decode cX4_isOrder 47 = .ok (.iload 4, 2) := by decide +kernel
theorem dX4_isOrder_49 : decode cX4_isOrder 49 = .ok (.invokestatic 79, 3) := by decide +kernel
theorem dX4_isOrder_52 : decode cX4_isOrder 52 = .ok (.ifCond .eq 7, 3) := by decide +kernel
theorem dX4_isOrder_55 : decode cX4_isOrder 55 = .ok (.iconst 1, 1) := by decide +kernel
theorem dX4_isOrder_56 : decode cX4_isOrder 56 = .ok (.goto 4, 3) := by decide +kernel
theorem dX4_isOrder_59 : decode cX4_isOrder 59 = .ok (.iconst 0, 1) := by decide +kernel
theorem dX4_isOrder_60 : decode cX4_isOrder 60 = .ok (.ireturn, 1) := by decide +kernel
theorem dX4_isOrder_61 : decode cX4_isOrder 61 = .ok (.aload_n 0, 1) := by decide +kernel
theorem dX4_isOrder_62 : decode cX4_isOrder 62 = .ok (.getfield 19, 3) := by decide +kernel
theorem dX4_isOrder_65 : decode cX4_isOrder 65 = .ok (.iload_n 2, 1) := by decide +kernel
theorem dX4_isOrder_66 : decode cX4_isOrder 66 = .ok (.invokevirtual 75, 3) := by decide +kernel
theorem dX4_isOrder_69 : decode cX4_isOrder 69 = .ok (.ifCond .eq 26, 3) := by decide +kernel
theorem dX4_isOrder_72 : decode cX4_isOrder 72 = .ok (.aload_n 0, 1) := by decide +kernel
theorem dX4_isOrder_73 : decode cX4_isOrder 73 = .ok (.getfield 19, 3) := by decide +kernel
theorem dX4_isOrder_76 : decode cX4_isOrder 76 = .ok (.iload_n 3, 1) := by decide +kernel
theorem dX4_isOrder_77 : decode cX4_isOrder 77 = .ok (.invokevirtual 75, 3) := by decide +kernel
theorem dX4_isOrder_80 : decode cX4_isOrder 80 = .ok (.ifCond .eq 15, 3) := by decide +kernel
theorem dX4_isOrder_83 : decode cX4_isOrder 83 = .ok (.iload 4, 2) := by decide +kernel
theorem dX4_isOrder_85 : decode cX4_isOrder 85 = .ok (.invokestatic 79, 3) := by decide +kernel
theorem dX4_isOrder_88 : decode cX4_isOrder 88 = .ok (.ifCond .eq 7, 3) := by decide +kernel
theorem dX4_isOrder_91 : decode cX4_isOrder 91 = .ok (.iconst 1, 1) := by decide +kernel
theorem dX4_isOrder_92 : decode cX4_isOrder 92 = .ok (.goto 4, 3) := by decide +kernel
theorem dX4_isOrder_95 : decode cX4_isOrder 95 = .ok (.iconst 0, 1) := by decide +kernel
theorem dX4_isOrder_96 : decode cX4_isOrder 96 = .ok (.ireturn, 1) := by decide +kernel
theorem dX4_isOrder_97 : decode cX4_isOrder 97 = .ok (.aload_n 0, 1) := by decide +kernel
theorem dX4_isOrder_98 : decode cX4_isOrder 98 = .ok (.getfield 19, 3) := by decide +kernel
theorem dX4_isOrder_101 : decode cX4_isOrder 101 = .ok (.iload_n 2, 1) := by decide +kernel
theorem dX4_isOrder_102 : decode cX4_isOrder 102 = .ok (.invokevirtual 75, 3) := by decide +kernel
theorem dX4_isOrder_105 : decode cX4_isOrder 105 = .ok (.ireturn, 1) := by decide +kernel
theorem dX4_isOrder_106 : decode cX4_isOrder 106 = .ok (.iconst 1, 1) := by decide +kernel
theorem dX4_isOrder_107 : decode cX4_isOrder 107 = .ok (.ireturn, 1) := by decide +kernel
theorem dX4_isOrder_108 : decode cX4_isOrder 108 = .ok (.iconst 0, 1) := by decide +kernel
theorem dX4_isOrder_109 : decode cX4_isOrder 109 = .ok (.ireturn, 1) := by decide +kernel
theorem dX4_doOrder_0 : decode cX4_doOrder 0 = .ok (.aload_n 0, 1) := by decide +kernel
theorem dX4_doOrder_1 : decode cX4_doOrder 1 = .ok (.getfield 33, 3) := by decide +kernel
theorem dX4_doOrder_4 : decode cX4_doOrder 4 = .ok (.getfield 144, 3) := by decide +kernel
theorem dX4_doOrder_7 : decode cX4_doOrder 7 = .ok (.iload_n 1, 1) := by decide +kernel
theorem dX4_doOrder_8 : decode cX4_doOrder 8 = .ok (.iaload, 1) := by decide +kernel
theorem dX4_doOrder_9 : decode cX4_doOrder 9 = .ok (.tableswitch 135 0 3 #[31, 57, 83, 118], 31) := by decide +kernel
theorem dX4_doOrder_40 : decode cX4_doOrder 40 = .ok (.aload_n 0, 1) := by decide +kernel
theorem dX4_doOrder_41 : decode cX4_doOrder 41 = .ok (.aload_n 0, 1) := by decide +kernel
theorem dX4_doOrder_42 : decode cX4_doOrder 42 = .ok (.getfield 33, 3) := by decide +kernel
theorem dX4_doOrder_45 : decode cX4_doOrder 45 = .ok (.getfield 147, 3) := by decide +kernel
theorem dX4_doOrder_48 : decode cX4_doOrder 48 = .ok (.iload_n 1, 1) := by decide +kernel
theorem dX4_doOrder_49 : decode cX4_doOrder 49 = .ok (.iaload, 1) := by decide +kernel
theorem dX4_doOrder_50 : decode cX4_doOrder 50 = .ok (.aload_n 0, 1) := by decide +kernel
theorem dX4_doOrder_51 : decode cX4_doOrder 51 = .ok (.getfield 33, 3) := by decide +kernel
theorem dX4_doOrder_54 : decode cX4_doOrder 54 = .ok (.getfield 150, 3) := by decide +kernel
theorem dX4_doOrder_57 : decode cX4_doOrder 57 = .ok (.iload_n 1, 1) := by decide +kernel
theorem dX4_doOrder_58 : decode cX4_doOrder 58 = .ok (.iaload, 1) := by decide +kernel
theorem dX4_doOrder_59 : decode cX4_doOrder 59 = .ok (.invokevirtual 153, 3) := by decide +kernel
theorem dX4_doOrder_62 : decode cX4_doOrder 62 = .ok (.istore_n 2, 1) := by decide +kernel
theorem dX4_doOrder_63 : decode cX4_doOrder 63 = .ok (.goto 83, 3) := by decide +kernel
theorem dX4_doOrder_66 : decode cX4_doOrder 66 = .ok (.aload_n 0, 1) := by decide +kernel
theorem dX4_doOrder_67 : decode cX4_doOrder 67 = .ok (.aload_n 0, 1) := by decide +kernel
theorem dX4_doOrder_68 : decode cX4_doOrder 68 = .ok (.getfield 33, 3) := by decide +kernel
theorem dX4_doOrder_71 : decode cX4_doOrder 71 = .ok (.getfield 147, 3) := by decide +kernel
theorem dX4_doOrder_74 : decode cX4_doOrder 74 = .ok (.iload_n 1, 1) := by decide +kernel
theorem dX4_doOrder_75 : decode cX4_doOrder 75 = .ok (.iaload, 1) := by decide +kernel
theorem dX4_doOrder_76 : decode cX4_doOrder 76 = .ok (.aload_n 0, 1) := by decide +kernel
theorem dX4_doOrder_77 : decode cX4_doOrder 77 = .ok (.getfield 33, 3) := by decide +kernel
theorem dX4_doOrder_80 : decode cX4_doOrder 80 = .ok (.getfield 150, 3) := by decide +kernel
theorem dX4_doOrder_83 : decode cX4_doOrder 83 = .ok (.iload_n 1, 1) := by decide +kernel
theorem dX4_doOrder_84 : decode cX4_doOrder 84 = .ok (.iaload, 1) := by decide +kernel
theorem dX4_doOrder_85 : decode cX4_doOrder 85 = .ok (.invokevirtual 156, 3) := by decide +kernel
theorem dX4_doOrder_88 : decode cX4_doOrder 88 = .ok (.istore_n 2, 1) := by decide +kernel
theorem dX4_doOrder_89 : decode cX4_doOrder 89 = .ok (.goto 57, 3) := by decide +kernel
theorem dX4_doOrder_92 : decode cX4_doOrder 92 = .ok (.aload_n 0, 1) := by decide +kernel
theorem dX4_doOrder_93 : decode cX4_doOrder 93 = .ok (.aload_n 0, 1) := by decide +kernel
theorem dX4_doOrder_94 : decode cX4_doOrder 94 = .ok (.getfield 33, 3) := by decide +kernel
theorem dX4_doOrder_97 : decode cX4_doOrder 97 = .ok (.getfield 147, 3) := by decide +kernel
theorem dX4_doOrder_100 : decode cX4_doOrder 100 = .ok (.iload_n 1, 1) := by decide +kernel
theorem dX4_doOrder_101 : decode cX4_doOrder 101 = .ok (.iaload, 1) := by decide +kernel
theorem dX4_doOrder_102 : decode cX4_doOrder 102 = .ok (.aload_n 0, 1) := by decide +kernel
theorem dX4_doOrder_103 : decode cX4_doOrder 103 = .ok (.getfield 33, 3) := by decide +kernel
theorem dX4_doOrder_106 : decode cX4_doOrder 106 = .ok (.getfield 159, 3) := by decide +kernel
theorem dX4_doOrder_109 : decode cX4_doOrder 109 = .ok (.iload_n 1, 1) := by decide +kernel
theorem dX4_doOrder_110 : decode cX4_doOrder 110 = .ok (.iaload, 1) := by decide +kernel
theorem dX4_doOrder_111 : decode cX4_doOrder 111 = .ok (.aload_n 0, 1) := by decide +kernel
theorem dX4_doOrder_112 : decode cX4_doOrder 112 = .ok (.getfield 33, 3) := by decide +kernel
theorem dX4_doOrder_115 : decode cX4_doOrder 115 = .ok (.getfield 150, 3) := by decide +kernel
theorem dX4_doOrder_118 : decode cX4_doOrder 118 = .ok (.iload_n 1, 1) := by decide +kernel
theorem dX4_doOrder_119 : decode cX4_doOrder 119 = .ok (.iaload, 1) := by decide +kernel
theorem dX4_doOrder_120 : decode cX4_doOrder 120 = .ok (.invokevirtual 162, 3) := by decide +kernel
theorem dX4_doOrder_123 : decode cX4_doOrder 123 = .ok (.istore_n 2, 1) := by decide +kernel
theorem dX4_doOrder_124 : decode cX4_doOrder 124 = .ok (.goto 22, 3) := by decide +kernel
theorem dX4_doOrder_127 : decode cX4_doOrder 127 = .ok (.aload_n 0, 1) := by decide +kernel
theorem dX4_doOrder_128 : decode cX4_doOrder 128 = .ok (.aload_n 0, 1) := by decide +kernel
theorem dX4_doOrder_129 : decode cX4_doOrder 129 = .ok (.getfield 33, 3) := by decide +kernel
theorem dX4_doOrder_132 : decode cX4_doOrder 132 = .ok (.getfield 147, 3) := by decide +kernel
theorem dX4_doOrder_135 : decode cX4_doOrder 135 = .ok (.iload_n 1, 1) := by decide +kernel
theorem dX4_doOrder_136 : decode cX4_doOrder 136 = .ok (.iaload, 1) := by decide +kernel
theorem dX4_doOrder_137 : decode cX4_doOrder 137 = .ok (.invokevirtual 166, 3) := by decide +kernel
theorem dX4_doOrder_140 : decode cX4_doOrder 140 = .ok (.istore_n 2, 1) := by decide +kernel
theorem dX4_doOrder_141 : decode cX4_doOrder 141 = .ok (.goto 5, 3) := by decide +kernel
theorem dX4_doOrder_144 : decode cX4_doOrder 144 = .ok (.iconst 0, 1) := by decide +kernel
theorem dX4_doOrder_145 : decode cX4_doOrder 145 = .ok (.ireturn, 1) := by decide +kernel
theorem dX4_doOrder_146 : decode cX4_doOrder 146 = .ok (.iload_n 2, 1) := by decide +kernel
theorem dX4_doOrder_147 : decode cX4_doOrder 147 = .ok (.bipush (-6), 2) := by decide +kernel
theorem dX4_doOrder_149 : decode cX4_doOrder 149 = .ok (.if_icmp .eq 13, 3) := by decide +kernel
theorem dX4_doOrder_152 : decode cX4_doOrder 152 = .ok (.iload_n 2, 1) := by decide +kernel
theorem dX4_doOrder_153 : decode cX4_doOrder 153 = .ok (.bipush (-7), 2) := by decide +kernel
theorem dX4_doOrder_155 : decode cX4_doOrder 155 = .ok (.if_icmp .eq 7, 3) := by decide +kernel
theorem dX4_doOrder_158 : decode cX4_doOrder 158 = .ok (.iconst 1, 1) := by decide +kernel
theorem dX4_doOrder_159 : decode cX4_doOrder 159 = .ok (.goto 4, 3) := by decide +kernel
theorem dX4_doOrder_162 : decode cX4_doOrder 162 = .ok (.iconst 0, 1) := by decide +kernel
theorem dX4_doOrder_163 : decode cX4_doOrder 163 = .ok (.ireturn, 1) := by decide +kernel
theorem dX4_isWithin_0 : decode cX4_isWithin 0 = .ok (.iload_n 0, 1) := by decide +kernel
theorem dX4_isWithin_1 : decode cX4_isWithin 1 = .ok (.iload_n 1, 1) := by decide +kernel
theorem dX4_isWithin_2 : decode cX4_isWithin 2 = .ok (.if_icmp .lt 12, 3) := by decide +kernel
theorem dX4_isWithin_5 : decode cX4_isWithin 5 = .ok (.iload_n 0, 1) := by decide +kernel
theorem dX4_isWithin_6 : decode cX4_isWithin 6 = .ok (.iload_n 2, 1) := by decide +kernel
theorem dX4_isWithin_7 : decode cX4_isWithin 7 = .ok (.if_icmp .gt 7, 3) := by decide +kernel
theorem dX4_isWithin_10 : decode cX4_isWithin 10 = .ok (.iconst 1, 1) := by decide +kernel
theorem dX4_isWithin_11 : decode cX4_isWithin 11 = .ok (.goto 4, 3) := by decide +kernel
theorem dX4_isWithin_14 : decode cX4_isWithin 14 = .ok (.iconst 0, 1) := by decide +kernel
theorem dX4_isWithin_15 : decode cX4_isWithin 15 = .ok (.ireturn, 1) := by decide +kernel
theorem dX4_isAmount_0 : decode cX4_isAmount 0 = .ok (.iload_n 0, 1) := by decide +kernel
theorem dX4_isAmount_1 : decode cX4_isAmount 1 = .ok (.iconst 0, 1) := by decide +kernel
theorem dX4_isAmount_2 : decode cX4_isAmount 2 = .ok (.ldc 56, 2) := by decide +kernel
theorem dX4_isAmount_4 : decode cX4_isAmount 4 = .ok (.invokestatic 48, 3) := by decide +kernel
theorem dX4_isAmount_7 : decode cX4_isAmount 7 = .ok (.ireturn, 1) := by decide +kernel
theorem dX4_hasRow_0 : decode cX4_hasRow 0 = .ok (.aload_n 0, 1) := by decide +kernel
theorem dX4_hasRow_1 : decode cX4_hasRow 1 = .ok (.getfield 19, 3) := by decide +kernel
theorem dX4_hasRow_4 : decode cX4_hasRow 4 = .ok (.iload_n 1, 1) := by decide +kernel
theorem dX4_hasRow_5 : decode cX4_hasRow 5 = .ok (.invokevirtual 75, 3) := by decide +kernel
theorem dX4_hasRow_8 : decode cX4_hasRow 8 = .ok (.ifCond .eq 30, 3) := by decide +kernel
theorem dX4_hasRow_11 : decode cX4_hasRow 11 = .ok (.iload_n 2, 1) := by decide +kernel
theorem dX4_hasRow_12 : decode cX4_hasRow 12 = .ok (.iconst 1, 1) := by decide +kernel
theorem dX4_hasRow_13 : decode cX4_hasRow 13 = .ok (.bipush 12, 2) := by decide +kernel
theorem dX4_hasRow_15 : decode cX4_hasRow 15 = .ok (.invokestatic 48, 3) := by decide +kernel
theorem dX4_hasRow_18 : decode cX4_hasRow 18 = .ok (.ifCond .eq 20, 3) := by decide +kernel
theorem dX4_hasRow_21 : decode cX4_hasRow 21 = .ok (.iload_n 1, 1) := by decide +kernel
theorem dX4_hasRow_22 : decode cX4_hasRow 22 = .ok (.iload_n 2, 1) := by decide +kernel
theorem dX4_hasRow_23 : decode cX4_hasRow 23 = .ok (.iadd, 1) := by decide +kernel
theorem dX4_hasRow_24 : decode cX4_hasRow 24 = .ok (.aload_n 0, 1) := by decide +kernel
theorem dX4_hasRow_25 : decode cX4_hasRow 25 = .ok (.getfield 19, 3) := by decide +kernel
theorem dX4_hasRow_28 : decode cX4_hasRow 28 = .ok (.getfield 169, 3) := by decide +kernel
theorem dX4_hasRow_31 : decode cX4_hasRow 31 = .ok (.if_icmp .gt 7, 3) := by decide +kernel
theorem dX4_hasRow_34 : decode cX4_hasRow 34 = .ok (.iconst 1, 1) := by decide +kernel
theorem dX4_hasRow_35 : decode cX4_hasRow 35 = .ok (.goto 4, 3) := by decide +kernel
theorem dX4_hasRow_38 : decode cX4_hasRow 38 = .ok (.iconst 0, 1) := by decide +kernel
theorem dX4_hasRow_39 : decode cX4_hasRow 39 = .ok (.ireturn, 1) := by decide +kernel
