theorem dX4_init_0 : decode cX4_init 0 = .ok (.aload_n 0, 1) := by decide +kernel
theorem dX4_init_1 : decode cX4_init 1 = .ok (.invokespecial 1, 3) := by decide +kernel
theorem dX4_init_4 : decode cX4_init 4 = .ok (.aload_n 0, 1) := by decide +kernel
theorem dX4_init_5 : decode cX4_init 5 = .ok (.new 7, 3) := by decide +kernel
theorem dX4_init_8 : decode cX4_init 8 = .ok (.dup, 1) := by decide +kernel
theorem dX4_init_9 : decode cX4_init 9 = .ok (.invokespecial 9, 3) := by decide +kernel
theorem dX4_init_12 : decode cX4_init 12 = .ok (.putfield 10, 3) := by decide +kernel
theorem dX4_init_15 : decode cX4_init 15 = .ok (.aload_n 0, 1) := by decide +kernel
theorem dX4_init_16 : decode cX4_init 16 = .ok (.new 16, 3) := by decide +kernel
theorem dX4_init_19 : decode cX4_init 19 = .ok (.dup, 1) := by decide +kernel
theorem dX4_init_20 : decode cX4_init 20 = .ok (.invokespecial 18, 3) := by decide +kernel
theorem dX4_init_23 : decode cX4_init 23 = .ok (.putfield 19, 3) := by decide +kernel
theorem dX4_init_26 : decode cX4_init 26 = .ok (.aload_n 0, 1) := by decide +kernel
theorem dX4_init_27 : decode cX4_init 27 = .ok (.new 23, 3) := by decide +kernel
theorem dX4_init_30 : decode cX4_init 30 = .ok (.dup, 1) := by decide +kernel
theorem dX4_init_31 : decode cX4_init 31 = .ok (.invokespecial 25, 3) := by decide +kernel
theorem dX4_init_34 : decode cX4_init 34 = .ok (.putfield 26, 3) := by decide +kernel
theorem dX4_init_37 : decode cX4_init 37 = .ok (.aload_n 0, 1) := by decide +kernel
theorem dX4_init_38 : decode cX4_init 38 = .ok (.new 30, 3) := by decide +kernel
theorem dX4_init_41 : decode cX4_init 41 = .ok (.dup, 1) := by decide +kernel
theorem dX4_init_42 : decode cX4_init 42 = .ok (.invokespecial 32, 3) := by decide +kernel
theorem dX4_init_45 : decode cX4_init 45 = .ok (.putfield 33, 3) := by decide +kernel
theorem dX4_init_48 : decode cX4_init 48 = .ok (.aload_n 0, 1) := by decide +kernel
theorem dX4_init_49 : decode cX4_init 49 = .ok (.bipush 60, 2) := by decide +kernel
theorem dX4_init_51 : decode cX4_init 51 = .ok (.newarray .int, 2) := by decide +kernel
theorem dX4_init_53 : decode cX4_init 53 = .ok (.putfield 37, 3) := by decide +kernel
theorem dX4_init_56 : decode cX4_init 56 = .ok (.aload_n 0, 1) := by decide +kernel
theorem dX4_init_57 : decode cX4_init 57 = .ok (.iconst 0, 1) := by decide +kernel
theorem dX4_init_58 : decode cX4_init 58 = .ok (.putfield 41, 3) := by decide +kernel
theorem dX4_init_61 : decode cX4_init 61 = .ok (.aload_n 0, 1) := by decide +kernel
theorem dX4_init_62 : decode cX4_init 62 = .ok (.iconst 0, 1) := by decide +kernel
theorem dX4_init_63 : decode cX4_init 63 = .ok (.putfield 45, 3) := by decide +kernel
theorem dX4_init_66 : decode cX4_init 66 = .ok (.return_, 1) := by decide +kernel
theorem dX4_key_0 : decode cX4_key 0 = .ok (.iload_n 1, 1) := by decide +kernel
theorem dX4_key_1 : decode cX4_key 1 = .ok (.iconst 1, 1) := by decide +kernel
theorem dX4_key_2 : decode cX4_key 2 = .ok (.bipush 9, 2) := by decide +kernel
theorem dX4_key_4 : decode cX4_key 4 = .ok (.invokestatic 48, 3) := by decide +kernel
theorem dX4_key_7 : decode cX4_key 7 = .ok (.ifCond .ne 6, 3) := by decide +kernel
theorem dX4_key_10 : decode cX4_key 10 = .ok (.bipush (-2), 2) := by decide +kernel
theorem dX4_key_12 : decode cX4_key 12 = .ok (.ireturn, 1) := by decide +kernel
theorem dX4_key_13 : decode cX4_key 13 = .ok (.aload_n 0, 1) := by decide +kernel
theorem dX4_key_14 : decode cX4_key 14 = .ok (.getfield 10, 3) := by decide +kernel
theorem dX4_key_17 : decode cX4_key 17 = .ok (.iload_n 1, 1) := by decide +kernel
theorem dX4_key_18 : decode cX4_key 18 = .ok (.iload_n 2, 1) := by decide +kernel
theorem dX4_key_19 : decode cX4_key 19 = .ok (.ifCond .eq 7, 3) := by decide +kernel
theorem dX4_key_22 : decode cX4_key 22 = .ok (.iconst 2, 1) := by decide +kernel
theorem dX4_key_23 : decode cX4_key 23 = .ok (.goto 4, 3) := by decide +kernel
theorem dX4_key_26 : decode cX4_key 26 = .ok (.iconst 1, 1) := by decide +kernel
theorem dX4_key_27 : decode cX4_key 27 = .ok (.invokevirtual 52, 3) := by decide +kernel
theorem dX4_key_30 : decode cX4_key 30 = .ok (.ireturn, 1) := by decide +kernel
theorem dX4_vault_0 : decode cX4_vault 0 = .ok (.iload_n 1, 1) := by decide +kernel
theorem dX4_vault_1 : decode cX4_vault 1 = .ok (.iconst 0, 1) := by decide +kernel
theorem dX4_vault_2 : decode cX4_vault 2 = .ok (.ldc 56, 2) := by decide +kernel
theorem dX4_vault_4 : decode cX4_vault 4 = .ok (.invokestatic 48, 3) := by decide +kernel
theorem dX4_vault_7 : decode cX4_vault 7 = .ok (.ifCond .ne 6, 3) := by decide +kernel
theorem dX4_vault_10 : decode cX4_vault 10 = .ok (.bipush (-2), 2) := by decide +kernel
theorem dX4_vault_12 : decode cX4_vault 12 = .ok (.ireturn, 1) := by decide +kernel
theorem dX4_vault_13 : decode cX4_vault 13 = .ok (.aload_n 0, 1) := by decide +kernel
theorem dX4_vault_14 : decode cX4_vault 14 = .ok (.getfield 19, 3) := by decide +kernel
theorem dX4_vault_17 : decode cX4_vault 17 = .ok (.iload_n 1, 1) := by decide +kernel
theorem dX4_vault_18 : decode cX4_vault 18 = .ok (.invokevirtual 57, 3) := by decide +kernel
theorem dX4_vault_21 : decode cX4_vault 21 = .ok (.ireturn, 1) := by decide +kernel
theorem dX4_hang_0 : decode cX4_hang 0 = .ok (.aload_n 0, 1) := by decide +kernel
theorem dX4_hang_1 : decode cX4_hang 1 = .ok (.getfield 19, 3) := by decide +kernel
theorem dX4_hang_4 : decode cX4_hang 4 = .ok (.iload_n 1, 1) := by decide +kernel
theorem dX4_hang_5 : decode cX4_hang 5 = .ok (.iload_n 2, 1) := by decide +kernel
theorem dX4_hang_6 : decode cX4_hang 6 = .ok (.invokevirtual 60, 3) := by decide +kernel
theorem dX4_hang_9 : decode cX4_hang 9 = .ok (.ifCond .eq 19, 3) := by decide +kernel
theorem dX4_hang_12 : decode cX4_hang 12 = .ok (.iload_n 3, 1) := by decide +kernel
theorem dX4_hang_13 : decode cX4_hang 13 = .ok (.iconst (-1), 1) := by decide +kernel
theorem dX4_hang_14 : decode cX4_hang 14 = .ok (.if_icmp .eq 17, 3) := by decide +kernel
theorem dX4_hang_17 : decode cX4_hang 17 = .ok (.aload_n 0, 1) := by decide +kernel
theorem dX4_hang_18 : decode cX4_hang 18 = .ok (.getfield 10, 3) := by decide +kernel
theorem dX4_hang_21 : decode cX4_hang 21 = .ok (.iload_n 3, 1) := by decide +kernel
theorem dX4_hang_22 : decode cX4_hang 22 = .ok (.invokevirtual 64, 3) := by decide +kernel
theorem dX4_hang_25 : decode cX4_hang 25 = .ok (.ifCond .ne 6, 3) := by decide +kernel
theorem dX4_hang_28 : decode cX4_hang 28 = .ok (.bipush (-2), 2) := by decide +kernel
theorem dX4_hang_30 : decode cX4_hang 30 = .ok (.ireturn, 1) := by decide +kernel
theorem dX4_hang_31 : decode cX4_hang 31 = .ok (.aload_n 0, 1) := by decide +kernel
theorem dX4_hang_32 : decode cX4_hang 32 = .ok (.getfield 19, 3) := by decide +kernel
theorem dX4_hang_35 : decode cX4_hang 35 = .ok (.iload_n 1, 1) := by decide +kernel
theorem dX4_hang_36 : decode cX4_hang 36 = .ok (.iload_n 2, 1) := by decide +kernel
theorem dX4_hang_37 : decode cX4_hang 37 = .ok (.invokevirtual 68, 3) := by decide +kernel
theorem dX4_hang_40 : decode cX4_hang 40 = .ok (.istore 4, 2) := by decide +kernel
theorem dX4_hang_42 : decode cX4_hang 42 = .ok (.aload_n 0, 1) := by decide +kernel
theorem dX4_hang_43 : decode cX4_hang 43 = .ok (.getfield 19, 3) := by decide +kernel
theorem dX4_hang_46 : decode cX4_hang 46 = .ok (.iload_n 1, 1) := by decide +kernel
theorem dX4_hang_47 : decode cX4_hang 47 = .ok (.iload_n 2, 1) := by decide +kernel
theorem dX4_hang_48 : decode cX4_hang 48 = .ok (.iload_n 3, 1) := by decide +kernel
theorem dX4_hang_49 : decode cX4_hang 49 = .ok (.invokevirtual 71, 3) := by decide +kernel
theorem dX4_hang_52 : decode cX4_hang 52 = .ok (.iload 4, 2) := by decide +kernel
theorem dX4_hang_54 : decode cX4_hang 54 = .ok (.ireturn, 1) := by decide +kernel
theorem dX4_link_0 : decode cX4_link 0 = .ok (.aload_n 0, 1) := by decide +kernel
theorem dX4_link_1 : decode cX4_link 1 = .ok (.getfield 19, 3) := by decide +kernel
theorem dX4_link_4 : decode cX4_link 4 = .ok (.iload_n 1, 1) := by decide +kernel
theorem dX4_link_5 : decode cX4_link 5 = .ok (.invokevirtual 75, 3) := by decide +kernel
theorem dX4_link_8 : decode cX4_link 8 = .ok (.ifCond .eq 19, 3) := by decide +kernel
theorem dX4_link_11 : decode cX4_link 11 = .ok (.iload_n 2, 1) := by decide +kernel
theorem dX4_link_12 : decode cX4_link 12 = .ok (.iconst (-1), 1) := by decide +kernel
theorem dX4_link_13 : decode cX4_link 13 = .ok (.if_icmp .eq 17, 3) := by decide +kernel
theorem dX4_link_16 : decode cX4_link 16 = .ok (.aload_n 0, 1) := by decide +kernel
theorem dX4_link_17 : decode cX4_link 17 = .ok (.getfield 19, 3) := by decide +kernel
theorem dX4_link_20 : decode cX4_link 20 = .ok (.iload_n 2, 1) := by decide +kernel
theorem dX4_link_21 : decode cX4_link 21 = .ok (.invokevirtual 75, 3) := by decide +kernel
theorem dX4_link_24 : decode cX4_link 24 = .ok (.ifCond .ne 6, 3) := by decide +kernel
theorem dX4_link_27 : decode cX4_link 27 = .ok (.bipush (-2), 2) := by decide +kernel
theorem dX4_link_29 : decode cX4_link 29 = .ok (.ireturn, 1) := by decide +kernel
theorem dX4_link_30 : decode cX4_link 30 = .ok (.aload_n 0, 1) := by decide +kernel
theorem dX4_link_31 : decode cX4_link 31 = .ok (.getfield 19, 3) := by decide +kernel
theorem dX4_link_34 : decode cX4_link 34 = .ok (.getfield 76, 3) := by decide +kernel
theorem dX4_link_37 : decode cX4_link 37 = .ok (.iload_n 1, 1) := by decide +kernel
theorem dX4_link_38 : decode cX4_link 38 = .ok (.iaload, 1) := by decide +kernel
theorem dX4_link_39 : decode cX4_link 39 = .ok (.istore_n 3, 1) := by decide +kernel
theorem dX4_link_40 : decode cX4_link 40 = .ok (.aload_n 0, 1) := by decide +kernel
theorem dX4_link_41 : decode cX4_link 41 = .ok (.getfield 19, 3) := by decide +kernel
theorem dX4_link_44 : decode cX4_link 44 = .ok (.getfield 76, 3) := by decide +kernel
theorem dX4_link_47 : decode cX4_link 47 = .ok (.iload_n 1, 1) := by decide +kernel
theorem dX4_link_48 : decode cX4_link 48 = .ok (.iload_n 2, 1) := by decide +kernel
theorem dX4_link_49 : decode cX4_link 49 = .ok (.iastore, 1) := by decide +kernel
theorem dX4_link_50 : decode cX4_link 50 = .ok (.iload_n 3, 1) := by decide +kernel
theorem dX4_link_51 : decode cX4_link 51 = .ok (.ireturn, 1) := by decide +kernel
theorem dX4_put_0 : decode cX4_put 0 = .ok (.aload_n 0, 1) := by decide +kernel
theorem dX4_put_1 : decode cX4_put 1 = .ok (.getfield 19, 3) := by decide +kernel
theorem dX4_put_4 : decode cX4_put 4 = .ok (.iload_n 1, 1) := by decide +kernel
theorem dX4_put_5 : decode cX4_put 5 = .ok (.invokevirtual 75, 3) := by decide +kernel
theorem dX4_put_8 : decode cX4_put 8 = .ok (.ifCond .eq 10, 3) := by decide +kernel
theorem dX4_put_11 : decode cX4_put 11 = .ok (.iload_n 2, 1) := by decide +kernel
theorem dX4_put_12 : decode cX4_put 12 = .ok (.invokestatic 79, 3) := by decide +kernel
theorem dX4_put_15 : decode cX4_put 15 = .ok (.ifCond .ne 6, 3) := by decide +kernel
theorem dX4_put_18 : decode cX4_put 18 = .ok (.bipush (-2), 2) := by decide +kernel
theorem dX4_put_20 : decode cX4_put 20 = .ok (.ireturn, 1) := by decide +kernel
theorem dX4_put_21 : decode cX4_put 21 = .ok (.aload_n 0, 1) := by decide +kernel
theorem dX4_put_22 : decode cX4_put 22 = .ok (.iload_n 1, 1) := by decide +kernel
theorem dX4_put_23 : decode cX4_put 23 = .ok (.invokevirtual 82, 3) := by decide +kernel
theorem dX4_put_26 : decode cX4_put 26 = .ok (.istore_n 3, 1) := by decide +kernel
theorem dX4_put_27 : decode cX4_put 27 = .ok (.iload_n 3, 1) := by decide +kernel
theorem dX4_put_28 : decode cX4_put 28 = .ok (.ifCond .eq 5, 3) := by decide +kernel
theorem dX4_put_31 : decode cX4_put 31 = .ok (.iload_n 3, 1) := by decide +kernel
theorem dX4_put_32 : decode cX4_put 32 = .ok (.ireturn, 1) := by decide +kernel
theorem dX4_put_33 : decode cX4_put 33 = .ok (.aload_n 0, 1) := by decide +kernel
theorem dX4_put_34 : decode cX4_put 34 = .ok (.getfield 19, 3) := by decide +kernel
theorem dX4_put_37 : decode cX4_put 37 = .ok (.iload_n 1, 1) := by decide +kernel
theorem dX4_put_38 : decode cX4_put 38 = .ok (.iload_n 2, 1) := by decide +kernel
theorem dX4_put_39 : decode cX4_put 39 = .ok (.invokevirtual 85, 3) := by decide +kernel
theorem dX4_put_42 : decode cX4_put 42 = .ok (.ifCond .eq 13, 3) := by decide +kernel
theorem dX4_put_45 : decode cX4_put 45 = .ok (.aload_n 0, 1) := by decide +kernel
theorem dX4_put_46 : decode cX4_put 46 = .ok (.sipush 300, 3) := by decide +kernel
theorem dX4_put_49 : decode cX4_put 49 = .ok (.bipush (-5), 2) := by decide +kernel
theorem dX4_put_51 : decode cX4_put 51 = .ok (.invokevirtual 88, 3) := by decide +kernel
theorem dX4_put_54 : decode cX4_put 54 = .ok (.ireturn, 1) := by decide +kernel
theorem dX4_put_55 : decode cX4_put 55 = .ok (.aload_n 0, 1) := by decide +kernel
theorem dX4_put_56 : decode cX4_put 56 = .ok (.getfield 19, 3) := by decide +kernel
theorem dX4_put_59 : decode cX4_put 59 = .ok (.getfield 91, 3) := by decide +kernel
theorem dX4_put_62 : decode cX4_put 62 = .ok (.iload_n 1, 1) := by decide +kernel
theorem dX4_put_63 : decode cX4_put 63 = .ok (.dup2, 1) := by decide +kernel
theorem dX4_put_64 : decode cX4_put 64 = .ok (.iaload, 1) := by decide +kernel
theorem dX4_put_65 : decode cX4_put 65 = .ok (.iload_n 2, 1) := by decide +kernel
theorem dX4_put_66 : decode cX4_put 66 = .ok (.iadd, 1) := by decide +kernel
theorem dX4_put_67 : decode cX4_put 67 = .ok (.iastore, 1) := by decide +kernel
theorem dX4_put_68 : decode cX4_put 68 = .ok (.aload_n 0, 1) := by decide +kernel
theorem dX4_put_69 : decode cX4_put 69 = .ok (.sipush 200, 3) := by decide +kernel
theorem dX4_put_72 : decode cX4_put 72 = .ok (.aload_n 0, 1) := by decide +kernel
theorem dX4_put_73 : decode cX4_put 73 = .ok (.getfield 19, 3) := by decide +kernel
theorem dX4_put_76 : decode cX4_put 76 = .ok (.getfield 91, 3) := by decide +kernel
theorem dX4_put_79 : decode cX4_put 79 = .ok (.iload_n 1, 1) := by decide +kernel
theorem dX4_put_80 : decode cX4_put 80 = .ok (.iaload, 1) := by decide +kernel
theorem dX4_put_81 : decode cX4_put 81 = .ok (.invokevirtual 88, 3) := by decide +kernel
theorem dX4_put_84 : decode cX4_put 84 = .ok (.ireturn, 1) := by decide +kernel
theorem dX4_take_0 : decode cX4_take 0 = .ok (.aload_n 0, 1) := by decide +kernel
theorem dX4_take_1 : decode cX4_take 1 = .ok (.getfield 19, 3) := by decide +kernel
theorem dX4_take_4 : decode cX4_take 4 = .ok (.iload_n 1, 1) := by decide +kernel
theorem dX4_take_5 : decode cX4_take 5 = .ok (.invokevirtual 75, 3) := by decide +kernel
theorem dX4_take_8 : decode cX4_take 8 = .ok (.ifCond .eq 10, 3) := by decide +kernel
theorem dX4_take_11 : decode cX4_take 11 = .ok (.iload_n 2, 1) := by decide +kernel
theorem dX4_take_12 : decode cX4_take 12 = .ok (.invokestatic 79, 3) := by decide +kernel
theorem dX4_take_15 : decode cX4_take 15 = .ok (.ifCond .ne 6, 3) := by decide +kernel
theorem dX4_take_18 : decode cX4_take 18 = .ok (.bipush (-2), 2) := by decide +kernel
theorem dX4_take_20 : decode cX4_take 20 = .ok (.ireturn, 1) := by decide +kernel
theorem dX4_take_21 : decode cX4_take 21 = .ok (.aload_n 0, 1) := by decide +kernel
theorem dX4_take_22 : decode cX4_take 22 = .ok (.iload_n 1, 1) := by decide +kernel
theorem dX4_take_23 : decode cX4_take 23 = .ok (.invokevirtual 82, 3) := by decide +kernel
theorem dX4_take_26 : decode cX4_take 26 = .ok (.istore_n 3, 1) := by decide +kernel
theorem dX4_take_27 : decode cX4_take 27 = .ok (.iload_n 3, 1) := by decide +kernel
theorem dX4_take_28 : decode cX4_take 28 = .ok (.ifCond .eq 5, 3) := by decide +kernel
theorem dX4_take_31 : decode cX4_take 31 = .ok (.iload_n 3, 1) := by decide +kernel
theorem dX4_take_32 : decode cX4_take 32 = .ok (.ireturn, 1) := by decide +kernel
theorem dX4_take_33 : decode cX4_take 33 = .ok (.aload_n 0, 1) := by decide +kernel
theorem dX4_take_34 : decode cX4_take 34 = .ok (.getfield 19, 3) := by decide +kernel
theorem dX4_take_37 : decode cX4_take 37 = .ok (.getfield 91, 3) := by decide +kernel
theorem dX4_take_40 : decode cX4_take 40 = .ok (.iload_n 1, 1) := by decide +kernel
theorem dX4_take_41 : decode cX4_take 41 = .ok (.iaload, 1) := by decide +kernel
theorem dX4_take_42 : decode cX4_take 42 = .ok (.iload_n 2, 1) := by decide +kernel
theorem dX4_take_43 : decode cX4_take 43 = .ok (.if_icmp .ge 10, 3) := by decide +kernel
theorem dX4_take_46 : decode cX4_take 46 = .ok (.aload_n 0, 1) := by decide +kernel
theorem dX4_take_47 : decode cX4_take 47 = .ok (.bipush (-6), 2) := by decide +kernel
theorem dX4_take_49 : decode cX4_take 49 = .ok (.invokevirtual 94, 3) := by decide +kernel
theorem dX4_take_52 : decode cX4_take 52 = .ok (.ireturn, 1) := by decide +kernel
theorem dX4_take_53 : decode cX4_take 53 = .ok (.aload_n 0, 1) := by decide +kernel
theorem dX4_take_54 : decode cX4_take 54 = .ok (.getfield 19, 3) := by decide +kernel
theorem dX4_take_57 : decode cX4_take 57 = .ok (.getfield 91, 3) := by decide +kernel
theorem dX4_take_60 : decode cX4_take 60 = .ok (.iload_n 1, 1) := by decide +kernel
theorem dX4_take_61 : decode cX4_take 61 = .ok (.dup2, 1) := by decide +kernel
theorem dX4_take_62 : decode cX4_take 62 = .ok (.iaload, 1) := by decide +kernel
theorem dX4_take_63 : decode cX4_take 63 = .ok (.iload_n 2, 1) := by decide +kernel
theorem dX4_take_64 : decode cX4_take 64 = .ok (.isub, 1) := by decide +kernel
theorem dX4_take_65 : decode cX4_take 65 = .ok (.iastore, 1) := by decide +kernel
theorem dX4_take_66 : decode cX4_take 66 = .ok (.aload_n 0, 1) := by decide +kernel
theorem dX4_take_67 : decode cX4_take 67 = .ok (.sipush 200, 3) := by decide +kernel
theorem dX4_take_70 : decode cX4_take 70 = .ok (.aload_n 0, 1) := by decide +kernel
theorem dX4_take_71 : decode cX4_take 71 = .ok (.getfield 19, 3) := by decide +kernel
theorem dX4_take_74 : decode cX4_take 74 = .ok (.getfield 91, 3) := by decide +kernel
theorem dX4_take_77 : decode cX4_take 77 = .ok (.iload_n 1, 1) := by decide +kernel
theorem dX4_take_78 : decode cX4_take 78 = .ok (.iaload, 1) := by decide +kernel
theorem dX4_take_79 : decode cX4_take 79 = .ok (.invokevirtual 88, 3) := by decide +kernel
theorem dX4_take_82 : decode cX4_take 82 = .ok (.ireturn, 1) := by decide +kernel
theorem dX4_move_0 : decode cX4_move 0 = .ok (.aload_n 0, 1) := by decide +kernel
theorem dX4_move_1 : decode cX4_move 1 = .ok (.getfield 19, 3) := by decide +kernel
theorem dX4_move_4 : decode cX4_move 4 = .ok (.iload_n 1, 1) := by decide +kernel
theorem dX4_move_5 : decode cX4_move 5 = .ok (.invokevirtual 75, 3) := by decide +kernel
theorem dX4_move_8 : decode cX4_move 8 = .ok (.ifCond .eq 21, 3) := by decide +kernel
theorem dX4_move_11 : decode cX4_move 11 = .ok (.aload_n 0, 1) := by decide +kernel
theorem dX4_move_12 : decode cX4_move 12 = .ok (.getfield 19, 3) := by decide +kernel
theorem dX4_move_15 : decode cX4_move 15 = .ok (.iload_n 2, 1) := by decide +kernel
theorem dX4_move_16 : decode cX4_move 16 = .ok (.invokevirtual 75, 3) := by decide +kernel
theorem dX4_move_19 : decode cX4_move 19 = .ok (.ifCond .eq 10, 3) := by decide +kernel
theorem dX4_move_22 : decode cX4_move 22 = .ok (.iload_n 3, 1) := by decide +kernel
theorem dX4_move_23 : decode cX4_move 23 = .ok (.invokestatic 79, 3) := by decide +kernel
theorem dX4_move_26 : decode cX4_move 26 = .ok (.ifCond .ne 6, 3) := by decide +kernel
theorem dX4_move_29 : decode cX4_move 29 = .ok (.bipush (-2), 2) := by decide +kernel
theorem dX4_move_31 : decode cX4_move 31 = .ok (.ireturn, 1) := by decide +kernel
theorem dX4_move_32 : decode cX4_move 32 = .ok (.aload_n 0, 1) := by decide +kernel
theorem dX4_move_33 : decode cX4_move 33 = .ok (.iload_n 1, 1) := by decide +kernel
theorem dX4_move_34 : decode cX4_move 34 = .ok (.invokevirtual 82, 3) := by decide +kernel
theorem dX4_move_37 : decode cX4_move 37 = .ok (.istore 4, 2) := by decide +kernel
theorem dX4_move_39 : decode cX4_move 39 = .ok (.iload 4, 2) := by decide +kernel
theorem dX4_move_41 : decode cX4_move 41 = .ok (.ifCond .ne 10, 3) := by decide +kernel
theorem dX4_move_44 : decode cX4_move 44 = .ok (.aload_n 0, 1) := by decide +kernel
theorem dX4_move_45 : decode cX4_move 45 = .ok (.iload_n 2, 1) := by decide +kernel
theorem dX4_move_46 : decode cX4_move 46 = .ok (.invokevirtual 82, 3) := by decide +kernel
theorem dX4_move_49 : decode cX4_move 49 = .ok (.istore 4, 2) := by decide +kernel
theorem dX4_move_51 : decode cX4_move 51 = .ok (.iload 4, 2) := by decide +kernel
theorem dX4_move_53 : decode cX4_move 53 = .ok (.ifCond .eq 6, 3) := by decide +kernel
theorem dX4_move_56 : decode cX4_move 56 = .ok (.iload 4, 2) := by decide +kernel
theorem dX4_move_58 : decode cX4_move 58 = .ok (.ireturn, 1) := by decide +kernel
theorem dX4_move_59 : decode cX4_move 59 = .ok (.aload_n 0, 1) := by decide +kernel
theorem dX4_move_60 : decode cX4_move 60 = .ok (.getfield 19, 3) := by decide +kernel
theorem dX4_move_63 : decode cX4_move 63 = .ok (.getfield 91, 3) := by decide +kernel
theorem dX4_move_66 : decode cX4_move 66 = .ok (.iload_n 1, 1) := by decide +kernel
theorem dX4_move_67 : decode cX4_move 67 = .ok (.iaload, 1) := by decide +kernel
theorem dX4_move_68 : decode cX4_move 68 = .ok (.iload_n 3, 1) := by decide +kernel
theorem dX4_move_69 : decode cX4_move 69 = .ok (.if_icmp .ge 10, 3) := by decide +kernel
theorem dX4_move_72 : decode cX4_move 72 = .ok (.aload_n 0, 1) := by decide +kernel
theorem dX4_move_73 : decode cX4_move 73 = .ok (.bipush (-6), 2) := by decide +kernel
theorem dX4_move_75 : decode cX4_move 75 = .ok (.invokevirtual 94, 3) := by decide +kernel
theorem dX4_move_78 : decode cX4_move 78 = .ok (.ireturn, 1) := by decide +kernel
theorem dX4_move_79 : decode cX4_move 79 = .ok (.aload_n 0, 1) := by decide +kernel
theorem dX4_move_80 : decode cX4_move 80 = .ok (.getfield 19, 3) := by decide +kernel
theorem dX4_move_83 : decode cX4_move 83 = .ok (.iload_n 2, 1) := by decide +kernel
theorem dX4_move_84 : decode cX4_move 84 = .ok (.iload_n 3, 1) := by decide +kernel
theorem dX4_move_85 : decode cX4_move 85 = .ok (.invokevirtual 85, 3) := by decide +kernel
theorem dX4_move_88 : decode cX4_move 88 = .ok (.ifCond .eq 13, 3) := by decide +kernel
theorem dX4_move_91 : decode cX4_move 91 = .ok (.aload_n 0, 1) := by decide +kernel
theorem dX4_move_92 : decode cX4_move 92 = .ok (.sipush 300, 3) := by decide +kernel
theorem dX4_move_95 : decode cX4_move 95 = .ok (.bipush (-5), 2) := by decide +kernel
theorem dX4_move_97 : decode cX4_move 97 = .ok (.invokevirtual 88, 3) := by decide +kernel
theorem dX4_move_100 : decode cX4_move 100 = .ok (.ireturn, 1) := by decide +kernel
theorem dX4_move_101 : decode cX4_move 101 = .ok (.aload_n 0, 1) := by decide +kernel
theorem dX4_move_102 : decode cX4_move 102 = .ok (.getfield 19, 3) := by decide +kernel
theorem dX4_move_105 : decode cX4_move 105 = .ok (.getfield 91, 3) := by decide +kernel
theorem dX4_move_108 : decode cX4_move 108 = .ok (.iload_n 1, 1) := by decide +kernel
theorem dX4_move_109 : decode cX4_move 109 = .ok (.dup2, 1) := by decide +kernel
theorem dX4_move_110 : decode cX4_move 110 = .ok (.iaload, 1) := by decide +kernel
theorem dX4_move_111 : decode cX4_move 111 = .ok (.iload_n 3, 1) := by decide +kernel
theorem dX4_move_112 : decode cX4_move 112 = .ok (.isub, 1) := by decide +kernel
theorem dX4_move_113 : decode cX4_move 113 = .ok (.iastore, 1) := by decide +kernel
theorem dX4_move_114 : decode cX4_move 114 = .ok (.aload_n 0, 1) := by decide +kernel
theorem dX4_move_115 : decode cX4_move 115 = .ok (.getfield 19, 3) := by decide +kernel
theorem dX4_move_118 : decode cX4_move 118 = .ok (.getfield 91, 3) := by decide +kernel
theorem dX4_move_121 : decode cX4_move 121 = .ok (.iload_n 2, 1) := by decide +kernel
theorem dX4_move_122 : decode cX4_move 122 = .ok (.dup2, 1) := by decide +kernel
theorem dX4_move_123 : decode cX4_move 123 = .ok (.iaload, 1) := by decide +kernel
theorem dX4_move_124 : decode cX4_move 124 = .ok (.iload_n 3, 1) := by decide +kernel
theorem dX4_move_125 : decode cX4_move 125 = .ok (.iadd, 1) := by decide +kernel
theorem dX4_move_126 : decode cX4_move 126 = .ok (.iastore, 1) := by decide +kernel
theorem dX4_move_127 : decode cX4_move 127 = .ok (.aload_n 0, 1) := by decide +kernel
theorem dX4_move_128 : decode cX4_move 128 = .ok (.sipush 200, 3) := by decide +kernel
theorem dX4_move_131 : decode cX4_move 131 = .ok (.aload_n 0, 1) := by decide +kernel
theorem dX4_move_132 : decode cX4_move 132 = .ok (.getfield 19, 3) := by decide +kernel
theorem dX4_move_135 : decode cX4_move 135 = .ok (.getfield 91, 3) := by decide +kernel
theorem dX4_move_138 : decode cX4_move 138 = .ok (.iload_n 1, 1) := by decide +kernel
theorem dX4_move_139 : decode cX4_move 139 = .ok (.iaload, 1) := by decide +kernel
theorem dX4_move_140 : decode cX4_move 140 = .ok (.invokevirtual 88, 3) := by decide +kernel
theorem dX4_move_143 : decode cX4_move 143 = .ok (.ireturn, 1) := by decide +kernel
theorem dX4_split_0 : decode cX4_split 0 = .ok (.aload_n 0, 1) := by decide +kernel
theorem dX4_split_1 : decode cX4_split 1 = .ok (.getfield 19, 3) := by decide +kernel
theorem dX4_split_4 : decode cX4_split 4 = .ok (.iload_n 1, 1) := by decide +kernel
theorem dX4_split_5 : decode cX4_split 5 = .ok (.invokevirtual 75, 3) := by decide +kernel
theorem dX4_split_8 : decode cX4_split 8 = .ok (.ifCond .eq 14, 3) := by decide +kernel
theorem dX4_split_11 : decode cX4_split 11 = .ok (.iload_n 2, 1) := by decide +kernel
theorem dX4_split_12 : decode cX4_split 12 = .ok (.iconst 0, 1) := by decide +kernel
theorem dX4_split_13 : decode cX4_split 13 = .ok (.sipush 1000, 3) := by decide +kernel
theorem dX4_split_16 : decode cX4_split 16 = .ok (.invokestatic 48, 3) := by decide +kernel
theorem dX4_split_19 : decode cX4_split 19 = .ok (.ifCond .ne 6, 3) := by decide +kernel
theorem dX4_split_22 : decode cX4_split 22 = .ok (.bipush (-2), 2) := by decide +kernel
theorem dX4_split_24 : decode cX4_split 24 = .ok (.ireturn, 1) := by decide +kernel
theorem dX4_split_25 : decode cX4_split 25 = .ok (.aload_n 0, 1) := by decide +kernel
theorem dX4_split_26 : decode cX4_split 26 = .ok (.iload_n 1, 1) := by decide +kernel
theorem dX4_split_27 : decode cX4_split 27 = .ok (.invokevirtual 82, 3) := by decide +kernel
theorem dX4_split_30 : decode cX4_split 30 = .ok (.istore_n 3, 1) := by decide +kernel
theorem dX4_split_31 : decode cX4_split 31 = .ok (.iload_n 3, 1) := by decide +kernel
theorem dX4_split_32 : decode cX4_split 32 = .ok (.ifCond .eq 5, 3) := by decide +kernel
theorem dX4_split_35 : decode cX4_split 35 = .ok (.iload_n 3, 1) := by decide +kernel
theorem dX4_split_36 : decode cX4_split 36 = .ok (.ireturn, 1) := by decide +kernel
theorem dX4_split_37 : decode cX4_split 37 = .ok (.iload_n 2, 1) := by decide +kernel
theorem dX4_split_38 : decode cX4_split 38 = .ok (.ifCond .ne 10, 3) := by decide +kernel
theorem dX4_split_41 : decode cX4_split 41 = .ok (.aload_n 0, 1) := by decide +kernel
theorem dX4_split_42 : decode cX4_split 42 = .ok (.bipush (-8), 2) := by decide +kernel
theorem dX4_split_44 : decode cX4_split 44 = .ok (.invokevirtual 94, 3) := by decide +kernel
theorem dX4_split_47 : decode cX4_split 47 = .ok (.ireturn, 1) := by decide +kernel
theorem dX4_split_48 : decode cX4_split 48 = .ok (.aload_n 0, 1) := by decide +kernel
theorem dX4_split_49 : decode cX4_split 49 = .ok (.sipush 200, 3) := by decide +kernel
theorem dX4_split_52 : decode cX4_split 52 = .ok (.aload_n 0, 1) := by decide +kernel
theorem dX4_split_53 : decode cX4_split 53 = .ok (.getfield 19, 3) := by decide +kernel
theorem dX4_split_56 : decode cX4_split 56 = .ok (.getfield 91, 3) := by decide +kernel
theorem dX4_split_59 : decode cX4_split 59 = .ok (.iload_n 1, 1) := by decide +kernel
theorem dX4_split_60 : decode cX4_split 60 = .ok (.iaload, 1) := by decide +kernel
theorem dX4_split_61 : decode cX4_split 61 = .ok (.iload_n 2, 1) := by decide +kernel
theorem dX4_split_62 : decode cX4_split 62 = .ok (.idiv, 1) := by decide +kernel
theorem dX4_split_63 : decode cX4_split 63 = .ok (.invokevirtual 88, 3) := by decide +kernel
theorem dX4_split_66 : decode cX4_split 66 = .ok (.ireturn, 1) := by decide +kernel
theorem dX4_swap_0 : decode cX4_swap 0 = .ok (.aload_n 0, 1) := by decide +kernel
theorem dX4_swap_1 : decode cX4_swap 1 = .ok (.getfield 19, 3) := by decide +kernel
theorem dX4_swap_4 : decode cX4_swap 4 = .ok (.iload_n 1, 1) := by decide +kernel
theorem dX4_swap_5 : decode cX4_swap 5 = .ok (.invokevirtual 75, 3) := by decide +kernel
theorem dX4_swap_8 : decode cX4_swap 8 = .ok (.ifCond .ne 6, 3) := by decide +kernel
theorem dX4_swap_11 : decode cX4_swap 11 = .ok (.bipush (-2), 2) := by decide +kernel
theorem dX4_swap_13 : decode cX4_swap 13 = .ok (.ireturn, 1) := by decide +kernel
theorem dX4_swap_14 : decode cX4_swap 14 = .ok (.aload_n 0, 1) := by decide +kernel
theorem dX4_swap_15 : decode cX4_swap 15 = .ok (.iload_n 1, 1) := by decide +kernel
theorem dX4_swap_16 : decode cX4_swap 16 = .ok (.invokevirtual 82, 3) := by decide +kernel
theorem dX4_swap_19 : decode cX4_swap 19 = .ok (.istore_n 2, 1) := by decide +kernel
theorem dX4_swap_20 : decode cX4_swap 20 = .ok (.iload_n 2, 1) := by decide +kernel
theorem dX4_swap_21 : decode cX4_swap 21 = .ok (.ifCond .eq 5, 3) := by decide +kernel
theorem dX4_swap_24 : decode cX4_swap 24 = .ok (.iload_n 2, 1) := by decide +kernel
theorem dX4_swap_25 : decode cX4_swap 25 = .ok (.ireturn, 1) := by decide +kernel
theorem dX4_swap_26 : decode cX4_swap 26 = .ok (.aload_n 0, 1) := by decide +kernel
theorem dX4_swap_27 : decode cX4_swap 27 = .ok (.getfield 19, 3) := by decide +kernel
theorem dX4_swap_30 : decode cX4_swap 30 = .ok (.iload_n 1, 1) := by decide +kernel
theorem dX4_swap_31 : decode cX4_swap 31 = .ok (.iconst 0, 1) := by decide +kernel
theorem dX4_swap_32 : decode cX4_swap 32 = .ok (.invokevirtual 68, 3) := by decide +kernel
theorem dX4_swap_35 : decode cX4_swap 35 = .ok (.istore_n 3, 1) := by decide +kernel
theorem dX4_swap_36 : decode cX4_swap 36 = .ok (.aload_n 0, 1) := by decide +kernel
theorem dX4_swap_37 : decode cX4_swap 37 = .ok (.getfield 19, 3) := by decide +kernel
theorem dX4_swap_40 : decode cX4_swap 40 = .ok (.iload_n 1, 1) := by decide +kernel
theorem dX4_swap_41 : decode cX4_swap 41 = .ok (.iconst 1, 1) := by decide +kernel
theorem dX4_swap_42 : decode cX4_swap 42 = .ok (.invokevirtual 68, 3) := by decide +kernel
theorem dX4_swap_45 : decode cX4_swap 45 = .ok (.istore 4, 2) := by decide +kernel
theorem dX4_swap_47 : decode cX4_swap 47 = .ok (.aload_n 0, 1) := by decide +kernel
theorem dX4_swap_48 : decode cX4_swap 48 = .ok (.getfield 19, 3) := by decide +kernel
theorem dX4_swap_51 : decode cX4_swap 51 = .ok (.iload_n 1, 1) := by decide +kernel
theorem dX4_swap_52 : decode cX4_swap 52 = .ok (.iconst 0, 1) := by decide +kernel
theorem dX4_swap_53 : decode cX4_swap 53 = .ok (.iload 4, 2) := by decide +kernel
theorem dX4_swap_55 : decode cX4_swap 55 = .ok (.invokevirtual 71, 3) := by decide +kernel
theorem dX4_swap_58 : decode cX4_swap 58 = .ok (.aload_n 0, 1) := by decide +kernel
theorem dX4_swap_59 : decode cX4_swap 59 = .ok (.getfield 19, 3) := by decide +kernel
theorem dX4_swap_62 : decode cX4_swap 62 = .ok (.iload_n 1, 1) := by decide +kernel
theorem dX4_swap_63 : decode cX4_swap 63 = .ok (.iconst 1, 1) := by decide +kernel
theorem dX4_swap_64 : decode cX4_swap 64 = .ok (.iload_n 3, 1) := by decide +kernel
theorem dX4_swap_65 : decode cX4_swap 65 = .ok (.invokevirtual 71, 3) := by decide +kernel
theorem dX4_swap_68 : decode cX4_swap 68 = .ok (.aload_n 0, 1) := by decide +kernel
theorem dX4_swap_69 : decode cX4_swap 69 = .ok (.sipush 200, 3) := by decide +kernel
theorem dX4_swap_72 : decode cX4_swap 72 = .ok (.iload 4, 2) := by decide +kernel
theorem dX4_swap_74 : decode cX4_swap 74 = .ok (.invokevirtual 88, 3) := by decide +kernel
theorem dX4_swap_77 : decode cX4_swap 77 = .ok (.ireturn, 1) := by decide +kernel
theorem dX4_polish_0 : decode cX4_polish 0 = .ok (.aload_n 0, 1) := by decide +kernel
theorem dX4_polish_1 : decode cX4_polish 1 = .ok (.getfield 10, 3) := by decide +kernel
theorem dX4_polish_4 : decode cX4_polish 4 = .ok (.iload_n 1, 1) := by decide +kernel
theorem dX4_polish_5 : decode cX4_polish 5 = .ok (.invokevirtual 64, 3) := by decide +kernel
theorem dX4_polish_8 : decode cX4_polish 8 = .ok (.ifCond .ne 6, 3) := by decide +kernel
theorem dX4_polish_11 : decode cX4_polish 11 = .ok (.bipush (-2), 2) := by decide +kernel
theorem dX4_polish_13 : decode cX4_polish 13 = .ok (.ireturn, 1) := by decide +kernel
theorem dX4_polish_14 : decode cX4_polish 14 = .ok (.aload_n 0, 1) := by decide +kernel
theorem dX4_polish_15 : decode cX4_polish 15 = .ok (.iload_n 1, 1) := by decide +kernel
theorem dX4_polish_16 : decode cX4_polish 16 = .ok (.invokevirtual 97, 3) := by decide +kernel
theorem dX4_polish_19 : decode cX4_polish 19 = .ok (.pop, 1) := by decide +kernel
theorem dX4_polish_20 : decode cX4_polish 20 = .ok (.aload_n 0, 1) := by decide +kernel
theorem dX4_polish_21 : decode cX4_polish 21 = .ok (.getfield 10, 3) := by decide +kernel
theorem dX4_polish_24 : decode cX4_polish 24 = .ok (.getfield 100, 3) := by decide +kernel
theorem dX4_polish_27 : decode cX4_polish 27 = .ok (.iload_n 1, 1) := by decide +kernel
theorem dX4_polish_28 : decode cX4_polish 28 = .ok (.iaload, 1) := by decide +kernel
theorem dX4_polish_29 : decode cX4_polish 29 = .ok (.istore_n 2, 1) := by decide +kernel
theorem dX4_polish_30 : decode cX4_polish 30 = .ok (.aload_n 0, 1) := by decide +kernel
theorem dX4_polish_31 : decode cX4_polish 31 = .ok (.getfield 10, 3) := by decide +kernel
theorem dX4_polish_34 : decode cX4_polish 34 = .ok (.getfield 100, 3) := by decide +kernel
theorem dX4_polish_37 : decode cX4_polish 37 = .ok (.iload_n 1, 1) := by decide +kernel
theorem dX4_polish_38 : decode cX4_polish 38 = .ok (.iconst 0, 1) := by decide +kernel
theorem dX4_polish_39 : decode cX4_polish 39 = .ok (.iastore, 1) := by decide +kernel
theorem dX4_polish_40 : decode cX4_polish 40 = .ok (.aload_n 0, 1) := by decide +kernel
theorem dX4_polish_41 : decode cX4_polish 41 = .ok (.sipush 200, 3) := by decide +kernel
theorem dX4_polish_44 : decode cX4_polish 44 = .ok (.iload_n 2, 1) := by decide +kernel
theorem dX4_polish_45 : decode cX4_polish 45 = .ok (.invokevirtual 88, 3) := by decide +kernel
theorem dX4_polish_48 : decode cX4_polish 48 = .ok (.ireturn, 1) := by decide +kernel
theorem dX4_rounds_0 : decode cX4_rounds 0 = .ok (.aload_n 0, 1) := by decide +kernel
theorem dX4_rounds_1 : decode cX4_rounds 1 = .ok (.iload_n 1, 1) := by decide +kernel
theorem dX4_rounds_2 : decode cX4_rounds 2 = .ok (.iload_n 2, 1) := by decide +kernel
theorem dX4_rounds_3 : decode cX4_rounds 3 = .ok (.invokevirtual 103, 3) := by decide +kernel
theorem dX4_rounds_6 : decode cX4_rounds 6 = .ok (.ifCond .eq 13, 3) := by decide +kernel
theorem dX4_rounds_9 : decode cX4_rounds 9 = .ok (.iload_n 3, 1) := by decide +kernel
theorem dX4_rounds_10 : decode cX4_rounds 10 = .ok (.iconst 1, 1) := by decide +kernel
theorem dX4_rounds_11 : decode cX4_rounds 11 = .ok (.bipush 12, 2) := by decide +kernel
theorem dX4_rounds_13 : decode cX4_rounds 13 = .ok (.invokestatic 48, 3) := by decide +kernel
theorem dX4_rounds_16 : decode cX4_rounds 16 = .ok (.ifCond .ne 6, 3) := by decide +kernel
theorem dX4_rounds_19 : decode cX4_rounds 19 = .ok (.bipush (-2), 2) := by decide +kernel
theorem dX4_rounds_21 : decode cX4_rounds 21 = .ok (.ireturn, 1) := by decide +kernel
theorem dX4_rounds_22 : decode cX4_rounds 22 = .ok (.iconst 0, 1) := by decide +kernel
theorem dX4_rounds_23 : decode cX4_rounds 23 = .ok (.istore 4, 2) := by decide +kernel
theorem dX4_rounds_25 : decode cX4_rounds 25 = .ok (.iload_n 1, 1) := by decide +kernel
theorem dX4_rounds_26 : decode cX4_rounds 26 = .ok (.istore 5, 2) := by decide +kernel
theorem dX4_rounds_28 : decode cX4_rounds 28 = .ok (.iload 5, 2) := by decide +kernel
theorem dX4_rounds_30 : decode cX4_rounds 30 = .ok (.iload_n 1, 1) := by decide +kernel
theorem dX4_rounds_31 : decode cX4_rounds 31 = .ok (.iload_n 2, 1) := by decide +kernel
theorem dX4_rounds_32 : decode cX4_rounds 32 = .ok (.iadd, 1) := by decide +kernel
theorem dX4_rounds_33 : decode cX4_rounds 33 = .ok (.if_icmp .ge 91, 3) := by decide +kernel
theorem dX4_rounds_36 : decode cX4_rounds 36 = .ok (.iload 4, 2) := by decide +kernel
theorem dX4_rounds_38 : decode cX4_rounds 38 = .ok (.iload_n 3, 1) := by decide +kernel
theorem dX4_rounds_39 : decode cX4_rounds 39 = .ok (.if_icmp .ge 85, 3) := by decide +kernel
theorem dX4_rounds_42 : decode cX4_rounds 42 = .ok (.aload_n 0, 1) := by decide +kernel
theorem dX4_rounds_43 : decode cX4_rounds 43 = .ok (.iload 5, 2) := by decide +kernel
theorem dX4_rounds_45 : decode cX4_rounds 45 = .ok (.iconst 0, 1) := by decide +kernel
theorem dX4_rounds_46 : decode cX4_rounds 46 = .ok (.invokevirtual 106, 3) := by decide +kernel
theorem dX4_rounds_49 : decode cX4_rounds 49 = .ok (.ifCond .eq 6, 3) := by decide +kernel
theorem dX4_rounds_52 : decode cX4_rounds 52 = .ok (.goto 66, 3) := by decide +kernel
theorem dX4_rounds_55 : decode cX4_rounds 55 = .ok (.aload_n 0, 1) := by decide +kernel
theorem dX4_rounds_56 : decode cX4_rounds 56 = .ok (.getfield 19, 3) := by decide +kernel
theorem dX4_rounds_59 : decode cX4_rounds 59 = .ok (.getfield 91, 3) := by decide +kernel
theorem dX4_rounds_62 : decode cX4_rounds 62 = .ok (.iload 5, 2) := by decide +kernel
theorem dX4_rounds_64 : decode cX4_rounds 64 = .ok (.iaload, 1) := by decide +kernel
theorem dX4_rounds_65 : decode cX4_rounds 65 = .ok (.ifCond .ne 15, 3) := by decide +kernel
theorem dX4_rounds_68 : decode cX4_rounds 68 = .ok (.aload_n 0, 1) := by decide +kernel
theorem dX4_rounds_69 : decode cX4_rounds 69 = .ok (.sipush 500, 3) := by decide +kernel
theorem dX4_rounds_72 : decode cX4_rounds 72 = .ok (.iconst (-1), 1) := by decide +kernel
theorem dX4_rounds_73 : decode cX4_rounds 73 = .ok (.invokevirtual 88, 3) := by decide +kernel
theorem dX4_rounds_76 : decode cX4_rounds 76 = .ok (.pop, 1) := by decide +kernel
theorem dX4_rounds_77 : decode cX4_rounds 77 = .ok (.goto 41, 3) := by decide +kernel
theorem dX4_rounds_80 : decode cX4_rounds 80 = .ok (.aload_n 0, 1) := by decide +kernel
theorem dX4_rounds_81 : decode cX4_rounds 81 = .ok (.getfield 19, 3) := by decide +kernel
theorem dX4_rounds_84 : decode cX4_rounds 84 = .ok (.getfield 91, 3) := by decide +kernel
theorem dX4_rounds_87 : decode cX4_rounds 87 = .ok (.iload 5, 2) := by decide +kernel
theorem dX4_rounds_89 : decode cX4_rounds 89 = .ok (.dup2, 1) := by decide +kernel
theorem dX4_rounds_90 : decode cX4_rounds 90 = .ok (.iaload, 1) := by decide +kernel
theorem dX4_rounds_91 : decode cX4_rounds 91 = .ok (.iconst 1, 1) := by decide +kernel
theorem dX4_rounds_92 : decode cX4_rounds 92 = .ok (.isub, 1) := by decide +kernel
theorem dX4_rounds_93 : decode cX4_rounds 93 = .ok (.iastore, 1) := by decide +kernel
theorem dX4_rounds_94 : decode cX4_rounds 94 = .ok (.iinc 4 1, 3) := by decide +kernel
theorem dX4_rounds_97 : decode cX4_rounds 97 = .ok (.aload_n 0, 1) := by decide +kernel
theorem dX4_rounds_98 : decode cX4_rounds 98 = .ok (.iload 4, 2) := by decide +kernel
theorem dX4_rounds_100 : decode cX4_rounds 100 = .ok (.iload_n 3, 1) := by decide +kernel
theorem dX4_rounds_101 : decode cX4_rounds 101 = .ok (.if_icmp .ne 9, 3) := by decide +kernel
theorem dX4_rounds_104 : decode cX4_rounds 104 = .ok (.sipush 400, 3) := by decide +kernel
theorem dX4_rounds_107 : decode cX4_rounds 107 = .ok (.goto 6, 3) := by decide +kernel
theorem dX4_rounds_110 : decode cX4_rounds 110 = .ok (.sipush 200, 3) := by decide +kernel
theorem dX4_rounds_113 : decode cX4_rounds 113 = .ok (.iconst (-1), 1) := by decide +kernel
theorem dX4_rounds_114 : decode cX4_rounds 114 = .ok (.invokevirtual 88, 3) := by decide +kernel
theorem dX4_rounds_117 : decode cX4_rounds 117 = .ok (.pop, 1) := by decide +kernel
theorem dX4_rounds_118 : decode cX4_rounds 118 = .ok (.iinc 5 1, 3) := by decide +kernel
theorem dX4_rounds_121 : decode cX4_rounds 121 = .ok (.goto (-93), 3) := by decide +kernel
theorem dX4_rounds_124 : decode cX4_rounds 124 = .ok (.iload 4, 2) := by decide +kernel
theorem dX4_rounds_126 : decode cX4_rounds 126 = .ok (.ireturn, 1) := by decide +kernel
theorem dX4_sweep_0 : decode cX4_sweep 0 = .ok (.aload_n 0, 1) := by decide +kernel
theorem dX4_sweep_1 : decode cX4_sweep 1 = .ok (.iload_n 1, 1) := by decide +kernel
theorem dX4_sweep_2 : decode cX4_sweep 2 = .ok (.iload_n 2, 1) := by decide +kernel
theorem dX4_sweep_3 : decode cX4_sweep 3 = .ok (.invokevirtual 103, 3) := by decide +kernel
theorem dX4_sweep_6 : decode cX4_sweep 6 = .ok (.ifCond .eq 13, 3) := by decide +kernel
theorem dX4_sweep_9 : decode cX4_sweep 9 = .ok (.iload_n 3, 1) := by decide +kernel
theorem dX4_sweep_10 : decode cX4_sweep 10 = .ok (.iconst 1, 1) := by decide +kernel
theorem dX4_sweep_11 : decode cX4_sweep 11 = .ok (.ldc 56, 2) := by decide +kernel
theorem dX4_sweep_13 : decode cX4_sweep 13 = .ok (.invokestatic 48, 3) := by decide +kernel
theorem dX4_sweep_16 : decode cX4_sweep 16 = .ok (.ifCond .ne 6, 3) := by decide +kernel
theorem dX4_sweep_19 : decode cX4_sweep 19 = .ok (.bipush (-2), 2) := by decide +kernel
theorem dX4_sweep_21 : decode cX4_sweep 21 = .ok (.ireturn, 1) := by decide +kernel
theorem dX4_sweep_22 : decode cX4_sweep 22 = .ok (.iload_n 3, 1) := by decide +kernel
theorem dX4_sweep_23 : decode cX4_sweep 23 = .ok (.istore 4, 2) := by decide +kernel
theorem dX4_sweep_25 : decode cX4_sweep 25 = .ok (.iload_n 1, 1) := by decide +kernel
theorem dX4_sweep_26 : decode cX4_sweep 26 = .ok (.istore 5, 2) := by decide +kernel
theorem dX4_sweep_28 : decode cX4_sweep 28 = .ok (.iload 5, 2) := by decide +kernel
theorem dX4_sweep_30 : decode cX4_sweep 30 = .ok (.iload_n 1, 1) := by decide +kernel
theorem dX4_sweep_31 : decode cX4_sweep 31 = .ok (.iload_n 2, 1) := by decide +kernel
theorem dX4_sweep_32 : decode cX4_sweep 32 = .ok (.iadd, 1) := by decide +kernel
theorem dX4_sweep_33 : decode cX4_sweep 33 = .ok (.if_icmp .ge 128, 3) := by decide +kernel
theorem dX4_sweep_36 : decode cX4_sweep 36 = .ok (.iload 4, 2) := by decide +kernel
theorem dX4_sweep_38 : decode cX4_sweep 38 = .ok (.ifCond .le 123, 3) := by decide +kernel
theorem dX4_sweep_41 : decode cX4_sweep 41 = .ok (.aload_n 0, 1) := by decide +kernel
theorem dX4_sweep_42 : decode cX4_sweep 42 = .ok (.iload 5, 2) := by decide +kernel
theorem dX4_sweep_44 : decode cX4_sweep 44 = .ok (.iconst 0, 1) := by decide +kernel
theorem dX4_sweep_45 : decode cX4_sweep 45 = .ok (.invokevirtual 106, 3) := by decide +kernel
theorem dX4_sweep_48 : decode cX4_sweep 48 = .ok (.istore 6, 2) := by decide +kernel
theorem dX4_sweep_50 : decode cX4_sweep 50 = .ok (.iload 6, 2) := by decide +kernel
theorem dX4_sweep_52 : decode cX4_sweep 52 = .ok (.ifCond .ne 12, 3) := by decide +kernel
theorem dX4_sweep_55 : decode cX4_sweep 55 = .ok (.aload_n 0, 1) := by decide +kernel
theorem dX4_sweep_56 : decode cX4_sweep 56 = .ok (.iload 5, 2) := by decide +kernel
theorem dX4_sweep_58 : decode cX4_sweep 58 = .ok (.iconst 1, 1) := by decide +kernel
theorem dX4_sweep_59 : decode cX4_sweep 59 = .ok (.invokevirtual 106, 3) := by decide +kernel
theorem dX4_sweep_62 : decode cX4_sweep 62 = .ok (.istore 6, 2) := by decide +kernel
theorem dX4_sweep_64 : decode cX4_sweep 64 = .ok (.iload 6, 2) := by decide +kernel
theorem dX4_sweep_66 : decode cX4_sweep 66 = .ok (.bipush (-7), 2) := by decide +kernel
theorem dX4_sweep_68 : decode cX4_sweep 68 = .ok (.if_icmp .ne 10, 3) := by decide +kernel
theorem dX4_sweep_71 : decode cX4_sweep 71 = .ok (.aload_n 0, 1) := by decide +kernel
theorem dX4_sweep_72 : decode cX4_sweep 72 = .ok (.bipush (-7), 2) := by decide +kernel
theorem dX4_sweep_74 : decode cX4_sweep 74 = .ok (.invokevirtual 94, 3) := by decide +kernel
theorem dX4_sweep_77 : decode cX4_sweep 77 = .ok (.ireturn, 1) := by decide +kernel
theorem dX4_sweep_78 : decode cX4_sweep 78 = .ok (.iload 6, 2) := by decide +kernel
theorem dX4_sweep_80 : decode cX4_sweep 80 = .ok (.iconst 1, 1) := by decide +kernel
theorem dX4_sweep_81 : decode cX4_sweep 81 = .ok (.if_icmp .ne 15, 3) := by decide +kernel
theorem dX4_sweep_84 : decode cX4_sweep 84 = .ok (.aload_n 0, 1) := by decide +kernel
theorem dX4_sweep_85 : decode cX4_sweep 85 = .ok (.sipush 500, 3) := by decide +kernel
theorem dX4_sweep_88 : decode cX4_sweep 88 = .ok (.iconst (-1), 1) := by decide +kernel
theorem dX4_sweep_89 : decode cX4_sweep 89 = .ok (.invokevirtual 88, 3) := by decide +kernel
theorem dX4_sweep_92 : decode cX4_sweep 92 = .ok (.pop, 1) := by decide +kernel
theorem dX4_sweep_93 : decode cX4_sweep 93 = .ok (.goto 62, 3) := by decide +kernel
theorem dX4_sweep_96 : decode cX4_sweep 96 = .ok (.aload_n 0, 1) := by decide +kernel
theorem dX4_sweep_97 : decode cX4_sweep 97 = .ok (.getfield 19, 3) := by decide +kernel
theorem dX4_sweep_100 : decode cX4_sweep 100 = .ok (.getfield 91, 3) := by decide +kernel
